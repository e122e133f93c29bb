theorem hk_plant_0 : Cond.classLink RL 13 eISE ∈ wsL_plant := by decide +kernel
set_option maxRecDepth 20000 in
set_option maxHeartbeats 4000000 in
theorem h_plant {l : Launch} {D : va_G} {ad : Nat → Nat} {cI cL : ClassId} (hfl : l.flags = flags0) (hok : adOK ad) {μ : Mem} {f : Int32 → Mem → Prop} {xc : String → Prop} (hM : CtIX l D ad cI cL yX7_plant wsX7_plant (RMX 6 90 1 6) (.ref (ad 0) :: []) μ f xc 1 6) (hxc : ∀ E, xc E → E = eISE) : CtL l D ad cI cL yL_plant wsL_plant (RMX 10 200 4 24) [.ref (ad 0), .ref (ad 33)] μ f xc cd1h := by
  refine ct_l (cc := cL_plant) (maxL := 3) (own := RL) hfl hok (by decide) rfl rfl rfl (Nat.le_of_ble_eq_true rfl) (fun p e s m below meth c C hr hE htab => ?_)
  refine go_lv (lv' := [some (.ref (ad 0)), some (.ref (ad 33)), none]) rfl ?_
  refine go_aload1 C (pc := 0) dL_plant_0 ?_
  refine go_iconst C (pc := 1) (v := 0) (by decide) dL_plant_1 ?_
  refine go_aload0 C (pc := 2) dL_plant_2 ?_
  refine go_tryV C hE (pc := 3) (As := []) (k := 0) (st := [.int 0, .ref (ad 33)]) obj_0 hM rfl rfl gL_plant_X7_plant rfl rfl yok_X7_plant ⟨rfl, rfl⟩ ⟨Nat.le_of_ble_eq_true rfl, Nat.le_of_ble_eq_true rfl⟩ (Nat.le_of_ble_eq_true rfl) ⟨Nat.le_of_ble_eq_true rfl, Nat.le_of_ble_eq_true rfl⟩ dL_plant_3 (fun E hx => ?_) (fun r μ1 hf => ?_)
  · have h9 := hxc E hx
    subst h9
    refine xg_0 C hE (pc := 3) htab rfl (by decide) hk_plant_0 (by decide) (fun q => ?_)
    refine go_astore2 C (pc := 11) dL_plant_11 ?_
    refine go_iconst C (pc := 12) (v := 1) (by decide) dL_plant_12 ?_
    exact go_hret C hr hE ⟨Nat.le_of_ble_eq_true rfl, Nat.le_of_ble_eq_true rfl⟩ dL_plant_13 (Or.inr ⟨_, hx, rfl, rfl⟩)
  · refine go_i2l C (pc := 6) dL_plant_6 ?_
    refine go_lastO C (pc := 7) dL_plant_7 ?_
    refine go_goto C (pc := 8) (tgt := 14) dL_plant_8 (by decide) ?_
    refine go_iconst C (pc := 14) (v := 0) (by decide) dL_plant_14 ?_
    exact go_hret C hr hE ⟨Nat.le_of_ble_eq_true rfl, Nat.le_of_ble_eq_true rfl⟩ dL_plant_15 (Or.inl ⟨rfl, r, μ1, hf, rfl⟩)
theorem hk_uproot_0 : Cond.classLink RL 19 eIOB ∈ wsL_uproot := by decide +kernel
set_option maxRecDepth 20000 in
set_option maxHeartbeats 4000000 in
theorem h_uproot {l : Launch} {D : va_G} {ad : Nat → Nat} {cI cL : ClassId} (hfl : l.flags = flags0) (hok : adOK ad) (p0 : Int32) {μ : Mem} {f : Int32 → Mem → Prop} {xc : String → Prop} (hM : CtIX l D ad cI cL yX7_uproot wsX7_uproot (RMX 7 111 1 6) (.ref (ad 0) :: [.int p0]) μ f xc 1 6) (hxc : ∀ E, xc E → E = eIOB) : CtL l D ad cI cL yL_uproot wsL_uproot (RMX 10 200 4 24) [.ref (ad 0), .int p0, .ref (ad 33)] μ f xc cd1h := by
  refine ct_l (cc := cL_uproot) (maxL := 4) (own := RL) hfl hok (by decide) rfl rfl rfl (Nat.le_of_ble_eq_true rfl) (fun p e s m below meth c C hr hE htab => ?_)
  refine go_lv (lv' := [some (.ref (ad 0)), some (.int p0), some (.ref (ad 33)), none]) rfl ?_
  refine go_aload2 C (pc := 0) dL_uproot_0 ?_
  refine go_iconst C (pc := 1) (v := 0) (by decide) dL_uproot_1 ?_
  refine go_aload0 C (pc := 2) dL_uproot_2 ?_
  refine go_iload1 C (pc := 3) dL_uproot_3 ?_
  refine go_tryV C hE (pc := 4) (As := [.int p0]) (k := 0) (st := [.int 0, .ref (ad 33)]) obj_0 hM rfl rfl gL_uproot_X7_uproot rfl rfl yok_X7_uproot ⟨rfl, rfl⟩ ⟨Nat.le_of_ble_eq_true rfl, Nat.le_of_ble_eq_true rfl⟩ (Nat.le_of_ble_eq_true rfl) ⟨Nat.le_of_ble_eq_true rfl, Nat.le_of_ble_eq_true rfl⟩ dL_uproot_4 (fun E hx => ?_) (fun r μ1 hf => ?_)
  · have h9 := hxc E hx
    subst h9
    refine xg_0 C hE (pc := 4) htab rfl (by decide) hk_uproot_0 (by decide) (fun q => ?_)
    refine go_astore3 C (pc := 12) dL_uproot_12 ?_
    refine go_iconst C (pc := 13) (v := 1) (by decide) dL_uproot_13 ?_
    exact go_hret C hr hE ⟨Nat.le_of_ble_eq_true rfl, Nat.le_of_ble_eq_true rfl⟩ dL_uproot_14 (Or.inr ⟨_, hx, rfl, rfl⟩)
  · refine go_i2l C (pc := 7) dL_uproot_7 ?_
    refine go_lastO C (pc := 8) dL_uproot_8 ?_
    refine go_goto C (pc := 9) (tgt := 15) dL_uproot_9 (by decide) ?_
    refine go_iconst C (pc := 15) (v := 0) (by decide) dL_uproot_15 ?_
    exact go_hret C hr hE ⟨Nat.le_of_ble_eq_true rfl, Nat.le_of_ble_eq_true rfl⟩ dL_uproot_16 (Or.inl ⟨rfl, r, μ1, hf, rfl⟩)
theorem hk_bind_0 : Cond.classLink RL 19 eIOB ∈ wsL_bind := by decide +kernel
theorem hk_bind_1 : Cond.classLink RL 25 eIAE ∈ wsL_bind := by decide +kernel
theorem hk_bind_2 : Cond.classLink RL 13 eISE ∈ wsL_bind := by decide +kernel
set_option maxRecDepth 20000 in
set_option maxHeartbeats 4000000 in
theorem h_bind {l : Launch} {D : va_G} {ad : Nat → Nat} {cI cL : ClassId} (hfl : l.flags = flags0) (hok : adOK ad) (p0 p1 : Int32) {μ : Mem} {f : Int32 → Mem → Prop} {xc : String → Prop} (hM : CtIX l D ad cI cL yX7_bind wsX7_bind (RMX 8 133 4 24) (.ref (ad 0) :: [.int p0, .int p1]) μ f xc 4 24) (hxc : ∀ E, xc E → E = eIOB ∨ E = eIAE ∨ E = eISE) : CtL l D ad cI cL yL_bind wsL_bind (RMX 10 200 4 24) [.ref (ad 0), .int p0, .int p1, .ref (ad 33)] μ f xc (cd3h eIOB eIAE) := by
  refine ct_l (cc := cL_bind) (maxL := 5) (own := RL) hfl hok (by decide) rfl rfl rfl (Nat.le_of_ble_eq_true rfl) (fun p e s m below meth c C hr hE htab => ?_)
  refine go_lv (lv' := [some (.ref (ad 0)), some (.int p0), some (.int p1), some (.ref (ad 33)), none]) rfl ?_
  refine go_aload3 C (pc := 0) dL_bind_0 ?_
  refine go_iconst C (pc := 1) (v := 0) (by decide) dL_bind_1 ?_
  refine go_aload0 C (pc := 2) dL_bind_2 ?_
  refine go_iload1 C (pc := 3) dL_bind_3 ?_
  refine go_iload2 C (pc := 4) dL_bind_4 ?_
  refine go_tryV C hE (pc := 5) (As := [.int p0, .int p1]) (k := 0) (st := [.int 0, .ref (ad 33)]) obj_0 hM rfl rfl gL_bind_X7_bind rfl rfl yok_X7_bind ⟨rfl, rfl⟩ ⟨Nat.le_of_ble_eq_true rfl, Nat.le_of_ble_eq_true rfl⟩ (Nat.le_of_ble_eq_true rfl) ⟨Nat.le_of_ble_eq_true rfl, Nat.le_of_ble_eq_true rfl⟩ dL_bind_5 (fun E hx => ?_) (fun r μ1 hf => ?_)
  · have h9 := hxc E hx
    rcases h9 with h9 | h9 | h9
    · skip
      subst h9
      refine xg_0 C hE (pc := 5) htab rfl (by decide) hk_bind_0 (by decide) (fun q => ?_)
      refine go_astore4 C (pc := 13) dL_bind_13 ?_
      refine go_iconst C (pc := 15) (v := 1) (by decide) dL_bind_15 ?_
      exact go_hret C hr hE ⟨Nat.le_of_ble_eq_true rfl, Nat.le_of_ble_eq_true rfl⟩ dL_bind_16 (Or.inr ⟨_, hx, by decide +kernel, rfl⟩)
    · skip
      subst h9
      refine xg_1 C hE (pc := 5) htab (by decide) hk_bind_0 (by decide) (by decide) rfl (by decide) hk_bind_1 (by decide) (fun q => ?_)
      refine go_astore4 C (pc := 17) dL_bind_17 ?_
      refine go_iconst C (pc := 19) (v := 2) (by decide) dL_bind_19 ?_
      exact go_hret C hr hE ⟨Nat.le_of_ble_eq_true rfl, Nat.le_of_ble_eq_true rfl⟩ dL_bind_20 (Or.inr ⟨_, hx, by decide +kernel, rfl⟩)
    · skip
      subst h9
      refine xg_2 C hE (pc := 5) htab (by decide) hk_bind_0 (by decide) (by decide) (by decide) hk_bind_1 (by decide) (by decide) rfl (by decide) hk_bind_2 (by decide) (fun q => ?_)
      refine go_astore4 C (pc := 21) dL_bind_21 ?_
      refine go_iconst C (pc := 23) (v := 3) (by decide) dL_bind_23 ?_
      exact go_hret C hr hE ⟨Nat.le_of_ble_eq_true rfl, Nat.le_of_ble_eq_true rfl⟩ dL_bind_24 (Or.inr ⟨_, hx, by decide +kernel, rfl⟩)
  · refine go_i2l C (pc := 8) dL_bind_8 ?_
    refine go_lastO C (pc := 9) dL_bind_9 ?_
    refine go_goto C (pc := 10) (tgt := 25) dL_bind_10 (by decide) ?_
    refine go_iconst C (pc := 25) (v := 0) (by decide) dL_bind_25 ?_
    exact go_hret C hr hE ⟨Nat.le_of_ble_eq_true rfl, Nat.le_of_ble_eq_true rfl⟩ dL_bind_26 (Or.inl ⟨rfl, r, μ1, hf, rfl⟩)
theorem hk_cut_0 : Cond.classLink RL 19 eIOB ∈ wsL_cut := by decide +kernel
theorem hk_cut_1 : Cond.classLink RL 25 eIAE ∈ wsL_cut := by decide +kernel
theorem hk_cut_2 : Cond.classLink RL 13 eISE ∈ wsL_cut := by decide +kernel
set_option maxRecDepth 20000 in
set_option maxHeartbeats 4000000 in
theorem h_cut {l : Launch} {D : va_G} {ad : Nat → Nat} {cI cL : ClassId} (hfl : l.flags = flags0) (hok : adOK ad) (p0 p1 : Int32) {μ : Mem} {f : Int32 → Mem → Prop} {xc : String → Prop} (hM : CtIX l D ad cI cL yX7_cut wsX7_cut (RMX 8 133 4 24) (.ref (ad 0) :: [.int p0, .int p1]) μ f xc 4 24) (hxc : ∀ E, xc E → E = eIOB ∨ E = eIAE ∨ E = eISE) : CtL l D ad cI cL yL_cut wsL_cut (RMX 10 200 4 24) [.ref (ad 0), .int p0, .int p1, .ref (ad 33)] μ f xc (cd3h eIOB eIAE) := by
  refine ct_l (cc := cL_cut) (maxL := 5) (own := RL) hfl hok (by decide) rfl rfl rfl (Nat.le_of_ble_eq_true rfl) (fun p e s m below meth c C hr hE htab => ?_)
  refine go_lv (lv' := [some (.ref (ad 0)), some (.int p0), some (.int p1), some (.ref (ad 33)), none]) rfl ?_
  refine go_aload3 C (pc := 0) dL_cut_0 ?_
  refine go_iconst C (pc := 1) (v := 0) (by decide) dL_cut_1 ?_
  refine go_aload0 C (pc := 2) dL_cut_2 ?_
  refine go_iload1 C (pc := 3) dL_cut_3 ?_
  refine go_iload2 C (pc := 4) dL_cut_4 ?_
  refine go_tryV C hE (pc := 5) (As := [.int p0, .int p1]) (k := 0) (st := [.int 0, .ref (ad 33)]) obj_0 hM rfl rfl gL_cut_X7_cut rfl rfl yok_X7_cut ⟨rfl, rfl⟩ ⟨Nat.le_of_ble_eq_true rfl, Nat.le_of_ble_eq_true rfl⟩ (Nat.le_of_ble_eq_true rfl) ⟨Nat.le_of_ble_eq_true rfl, Nat.le_of_ble_eq_true rfl⟩ dL_cut_5 (fun E hx => ?_) (fun r μ1 hf => ?_)
  · have h9 := hxc E hx
    rcases h9 with h9 | h9 | h9
    · skip
      subst h9
      refine xg_0 C hE (pc := 5) htab rfl (by decide) hk_cut_0 (by decide) (fun q => ?_)
      refine go_astore4 C (pc := 13) dL_cut_13 ?_
      refine go_iconst C (pc := 15) (v := 1) (by decide) dL_cut_15 ?_
      exact go_hret C hr hE ⟨Nat.le_of_ble_eq_true rfl, Nat.le_of_ble_eq_true rfl⟩ dL_cut_16 (Or.inr ⟨_, hx, by decide +kernel, rfl⟩)
    · skip
      subst h9
      refine xg_1 C hE (pc := 5) htab (by decide) hk_cut_0 (by decide) (by decide) rfl (by decide) hk_cut_1 (by decide) (fun q => ?_)
      refine go_astore4 C (pc := 17) dL_cut_17 ?_
      refine go_iconst C (pc := 19) (v := 2) (by decide) dL_cut_19 ?_
      exact go_hret C hr hE ⟨Nat.le_of_ble_eq_true rfl, Nat.le_of_ble_eq_true rfl⟩ dL_cut_20 (Or.inr ⟨_, hx, by decide +kernel, rfl⟩)
    · skip
      subst h9
      refine xg_2 C hE (pc := 5) htab (by decide) hk_cut_0 (by decide) (by decide) (by decide) hk_cut_1 (by decide) (by decide) rfl (by decide) hk_cut_2 (by decide) (fun q => ?_)
      refine go_astore4 C (pc := 21) dL_cut_21 ?_
      refine go_iconst C (pc := 23) (v := 3) (by decide) dL_cut_23 ?_
      exact go_hret C hr hE ⟨Nat.le_of_ble_eq_true rfl, Nat.le_of_ble_eq_true rfl⟩ dL_cut_24 (Or.inr ⟨_, hx, by decide +kernel, rfl⟩)
  · refine go_i2l C (pc := 8) dL_cut_8 ?_
    refine go_lastO C (pc := 9) dL_cut_9 ?_
    refine go_goto C (pc := 10) (tgt := 25) dL_cut_10 (by decide) ?_
    refine go_iconst C (pc := 25) (v := 0) (by decide) dL_cut_25 ?_
    exact go_hret C hr hE ⟨Nat.le_of_ble_eq_true rfl, Nat.le_of_ble_eq_true rfl⟩ dL_cut_26 (Or.inl ⟨rfl, r, μ1, hf, rfl⟩)
theorem hk_switchProp_0 : Cond.classLink RL 19 eIOB ∈ wsL_switchProp := by decide +kernel
set_option maxRecDepth 20000 in
set_option maxHeartbeats 4000000 in
theorem h_switchProp {l : Launch} {D : va_G} {ad : Nat → Nat} {cI cL : ClassId} (hfl : l.flags = flags0) (hok : adOK ad) (p0 : Int32) {μ : Mem} {f : Int32 → Mem → Prop} {xc : String → Prop} (hM : CtIX l D ad cI cL yX7_switchProp wsX7_switchProp (RMX 7 111 1 6) (.ref (ad 0) :: [.int p0]) μ f xc 1 6) (hxc : ∀ E, xc E → E = eIOB) (hb : ∀ r μ', f r μ' → r = 0 ∨ r = 1) : CtL l D ad cI cL yL_switchProp wsL_switchProp (RMX 10 200 4 24) [.ref (ad 0), .int p0, .ref (ad 33)] μ f xc cd1h := by
  refine ct_l (cc := cL_switchProp) (maxL := 4) (own := RL) hfl hok (by decide) rfl rfl rfl (Nat.le_of_ble_eq_true rfl) (fun p e s m below meth c C hr hE htab => ?_)
  refine go_lv (lv' := [some (.ref (ad 0)), some (.int p0), some (.ref (ad 33)), none]) rfl ?_
  refine go_aload2 C (pc := 0) dL_switchProp_0 ?_
  refine go_iconst C (pc := 1) (v := 0) (by decide) dL_switchProp_1 ?_
  refine go_aload0 C (pc := 2) dL_switchProp_2 ?_
  refine go_iload1 C (pc := 3) dL_switchProp_3 ?_
  refine go_tryV C hE (pc := 4) (As := [.int p0]) (k := 0) (st := [.int 0, .ref (ad 33)]) obj_0 hM rfl rfl gL_switchProp_X7_switchProp rfl rfl yok_X7_switchProp ⟨rfl, rfl⟩ ⟨Nat.le_of_ble_eq_true rfl, Nat.le_of_ble_eq_true rfl⟩ (Nat.le_of_ble_eq_true rfl) ⟨Nat.le_of_ble_eq_true rfl, Nat.le_of_ble_eq_true rfl⟩ dL_switchProp_4 (fun E hx => ?_) (fun r μ1 hf => ?_)
  · have h9 := hxc E hx
    subst h9
    refine xg_0 C hE (pc := 4) htab rfl (by decide) hk_switchProp_0 (by decide) (fun q => ?_)
    refine go_astore3 C (pc := 19) dL_switchProp_19 ?_
    refine go_iconst C (pc := 20) (v := 1) (by decide) dL_switchProp_20 ?_
    exact go_hret C hr hE ⟨Nat.le_of_ble_eq_true rfl, Nat.le_of_ble_eq_true rfl⟩ dL_switchProp_21 (Or.inr ⟨_, hx, rfl, rfl⟩)
  · refine go_if_eq C (pc := 7) (tgt := 14) dL_switchProp_7 (by decide) (fun h7 => ?_) (fun h7 => ?_)
    · refine go_lconst C (pc := 14) (v := (0 : Int32).toInt64) rfl dL_switchProp_14 ?_
      refine go_lastO C (pc := 15) dL_switchProp_15 ?_
      refine go_goto C (pc := 16) (tgt := 22) dL_switchProp_16 (by decide) ?_
      refine go_iconst C (pc := 22) (v := 0) (by decide) dL_switchProp_22 ?_
      exact go_hret C hr hE ⟨Nat.le_of_ble_eq_true rfl, Nat.le_of_ble_eq_true rfl⟩ dL_switchProp_23 (Or.inl ⟨rfl, r, μ1, hf, by rw [h7]⟩)
    · refine go_lconst C (pc := 10) (v := (1 : Int32).toInt64) rfl dL_switchProp_10 ?_
      refine go_goto C (pc := 11) (tgt := 15) dL_switchProp_11 (by decide) ?_
      refine go_lastO C (pc := 15) dL_switchProp_15 ?_
      refine go_goto C (pc := 16) (tgt := 22) dL_switchProp_16 (by decide) ?_
      refine go_iconst C (pc := 22) (v := 0) (by decide) dL_switchProp_22 ?_
      exact go_hret C hr hE ⟨Nat.le_of_ble_eq_true rfl, Nat.le_of_ble_eq_true rfl⟩ dL_switchProp_23 (Or.inl ⟨rfl, r, μ1, hf, by rw [(hb r μ1 hf).resolve_left h7]⟩)
theorem hk_change_0 : Cond.classLink RL 25 eIAE ∈ wsL_change := by decide +kernel
set_option maxRecDepth 20000 in
set_option maxHeartbeats 4000000 in
theorem h_change {l : Launch} {D : va_G} {ad : Nat → Nat} {cI cL : ClassId} (hfl : l.flags = flags0) (hok : adOK ad) {μ : Mem} {f : Int32 → Mem → Prop} {xc : String → Prop} (hM : CtIX l D ad cI cL yX7_change wsX7_change (RMX 6 111 1 6) (.ref (ad 0) :: []) μ f xc 1 6) (hxc : ∀ E, xc E → E = eIAE) : CtL l D ad cI cL yL_change wsL_change (RMX 10 200 4 24) [.ref (ad 0), .ref (ad 33)] μ f xc cd1h := by
  refine ct_l (cc := cL_change) (maxL := 3) (own := RL) hfl hok (by decide) rfl rfl rfl (Nat.le_of_ble_eq_true rfl) (fun p e s m below meth c C hr hE htab => ?_)
  refine go_lv (lv' := [some (.ref (ad 0)), some (.ref (ad 33)), none]) rfl ?_
  refine go_aload1 C (pc := 0) dL_change_0 ?_
  refine go_iconst C (pc := 1) (v := 0) (by decide) dL_change_1 ?_
  refine go_aload0 C (pc := 2) dL_change_2 ?_
  refine go_tryV C hE (pc := 3) (As := []) (k := 0) (st := [.int 0, .ref (ad 33)]) obj_0 hM rfl rfl gL_change_X7_change rfl rfl yok_X7_change ⟨rfl, rfl⟩ ⟨Nat.le_of_ble_eq_true rfl, Nat.le_of_ble_eq_true rfl⟩ (Nat.le_of_ble_eq_true rfl) ⟨Nat.le_of_ble_eq_true rfl, Nat.le_of_ble_eq_true rfl⟩ dL_change_3 (fun E hx => ?_) (fun r μ1 hf => ?_)
  · have h9 := hxc E hx
    subst h9
    refine xg_0 C hE (pc := 3) htab rfl (by decide) hk_change_0 (by decide) (fun q => ?_)
    refine go_astore2 C (pc := 11) dL_change_11 ?_
    refine go_iconst C (pc := 12) (v := 1) (by decide) dL_change_12 ?_
    exact go_hret C hr hE ⟨Nat.le_of_ble_eq_true rfl, Nat.le_of_ble_eq_true rfl⟩ dL_change_13 (Or.inr ⟨_, hx, rfl, rfl⟩)
  · refine go_i2l C (pc := 6) dL_change_6 ?_
    refine go_lastO C (pc := 7) dL_change_7 ?_
    refine go_goto C (pc := 8) (tgt := 14) dL_change_8 (by decide) ?_
    refine go_iconst C (pc := 14) (v := 0) (by decide) dL_change_14 ?_
    exact go_hret C hr hE ⟨Nat.le_of_ble_eq_true rfl, Nat.le_of_ble_eq_true rfl⟩ dL_change_15 (Or.inl ⟨rfl, r, μ1, hf, rfl⟩)
theorem hk_append_0 : Cond.classLink RL 13 eISE ∈ wsL_append := by decide +kernel
set_option maxRecDepth 20000 in
set_option maxHeartbeats 4000000 in
theorem h_append {l : Launch} {D : va_G} {ad : Nat → Nat} {cI cL : ClassId} (hfl : l.flags = flags0) (hok : adOK ad) (p0 : Int32) {μ : Mem} {f : Int32 → Mem → Prop} {xc : String → Prop} (hM : CtIX l D ad cI cL yX7_append wsX7_append (RMX 6 90 1 6) (.ref (ad 0) :: [.int p0]) μ f xc 1 6) (hxc : ∀ E, xc E → E = eISE) : CtL l D ad cI cL yL_append wsL_append (RMX 10 200 4 24) [.ref (ad 0), .int p0, .ref (ad 33)] μ f xc cd1h := by
  refine ct_l (cc := cL_append) (maxL := 4) (own := RL) hfl hok (by decide) rfl rfl rfl (Nat.le_of_ble_eq_true rfl) (fun p e s m below meth c C hr hE htab => ?_)
  refine go_lv (lv' := [some (.ref (ad 0)), some (.int p0), some (.ref (ad 33)), none]) rfl ?_
  refine go_aload2 C (pc := 0) dL_append_0 ?_
  refine go_iconst C (pc := 1) (v := 0) (by decide) dL_append_1 ?_
  refine go_aload0 C (pc := 2) dL_append_2 ?_
  refine go_iload1 C (pc := 3) dL_append_3 ?_
  refine go_tryV C hE (pc := 4) (As := [.int p0]) (k := 0) (st := [.int 0, .ref (ad 33)]) obj_0 hM rfl rfl gL_append_X7_append rfl rfl yok_X7_append ⟨rfl, rfl⟩ ⟨Nat.le_of_ble_eq_true rfl, Nat.le_of_ble_eq_true rfl⟩ (Nat.le_of_ble_eq_true rfl) ⟨Nat.le_of_ble_eq_true rfl, Nat.le_of_ble_eq_true rfl⟩ dL_append_4 (fun E hx => ?_) (fun r μ1 hf => ?_)
  · have h9 := hxc E hx
    subst h9
    refine xg_0 C hE (pc := 4) htab rfl (by decide) hk_append_0 (by decide) (fun q => ?_)
    refine go_astore3 C (pc := 12) dL_append_12 ?_
    refine go_iconst C (pc := 13) (v := 1) (by decide) dL_append_13 ?_
    exact go_hret C hr hE ⟨Nat.le_of_ble_eq_true rfl, Nat.le_of_ble_eq_true rfl⟩ dL_append_14 (Or.inr ⟨_, hx, rfl, rfl⟩)
  · refine go_i2l C (pc := 7) dL_append_7 ?_
    refine go_lastO C (pc := 8) dL_append_8 ?_
    refine go_goto C (pc := 9) (tgt := 15) dL_append_9 (by decide) ?_
    refine go_iconst C (pc := 15) (v := 0) (by decide) dL_append_15 ?_
    exact go_hret C hr hE ⟨Nat.le_of_ble_eq_true rfl, Nat.le_of_ble_eq_true rfl⟩ dL_append_16 (Or.inl ⟨rfl, r, μ1, hf, rfl⟩)
theorem hk_firstError_0 : Cond.classLink RL 13 eISE ∈ wsL_firstError := by decide +kernel
set_option maxRecDepth 20000 in
set_option maxHeartbeats 4000000 in
theorem h_firstError {l : Launch} {D : va_G} {ad : Nat → Nat} {cI cL : ClassId} (hfl : l.flags = flags0) (hok : adOK ad) {μ : Mem} {f : Int32 → Mem → Prop} {xc : String → Prop} (hM : CtIX l D ad cI cL yX7_firstError wsX7_firstError (RMX 6 90 1 6) (.ref (ad 0) :: []) μ f xc 1 6) (hxc : ∀ E, xc E → E = eISE) : CtL l D ad cI cL yL_firstError wsL_firstError (RMX 10 200 4 24) [.ref (ad 0), .ref (ad 33)] μ f xc cd1h := by
  refine ct_l (cc := cL_firstError) (maxL := 3) (own := RL) hfl hok (by decide) rfl rfl rfl (Nat.le_of_ble_eq_true rfl) (fun p e s m below meth c C hr hE htab => ?_)
  refine go_lv (lv' := [some (.ref (ad 0)), some (.ref (ad 33)), none]) rfl ?_
  refine go_aload1 C (pc := 0) dL_firstError_0 ?_
  refine go_iconst C (pc := 1) (v := 0) (by decide) dL_firstError_1 ?_
  refine go_aload0 C (pc := 2) dL_firstError_2 ?_
  refine go_tryV C hE (pc := 3) (As := []) (k := 0) (st := [.int 0, .ref (ad 33)]) obj_0 hM rfl rfl gL_firstError_X7_firstError rfl rfl yok_X7_firstError ⟨rfl, rfl⟩ ⟨Nat.le_of_ble_eq_true rfl, Nat.le_of_ble_eq_true rfl⟩ (Nat.le_of_ble_eq_true rfl) ⟨Nat.le_of_ble_eq_true rfl, Nat.le_of_ble_eq_true rfl⟩ dL_firstError_3 (fun E hx => ?_) (fun r μ1 hf => ?_)
  · have h9 := hxc E hx
    subst h9
    refine xg_0 C hE (pc := 3) htab rfl (by decide) hk_firstError_0 (by decide) (fun q => ?_)
    refine go_astore2 C (pc := 11) dL_firstError_11 ?_
    refine go_iconst C (pc := 12) (v := 1) (by decide) dL_firstError_12 ?_
    exact go_hret C hr hE ⟨Nat.le_of_ble_eq_true rfl, Nat.le_of_ble_eq_true rfl⟩ dL_firstError_13 (Or.inr ⟨_, hx, rfl, rfl⟩)
  · refine go_i2l C (pc := 6) dL_firstError_6 ?_
    refine go_lastO C (pc := 7) dL_firstError_7 ?_
    refine go_goto C (pc := 8) (tgt := 14) dL_firstError_8 (by decide) ?_
    refine go_iconst C (pc := 14) (v := 0) (by decide) dL_firstError_14 ?_
    exact go_hret C hr hE ⟨Nat.le_of_ble_eq_true rfl, Nat.le_of_ble_eq_true rfl⟩ dL_firstError_15 (Or.inl ⟨rfl, r, μ1, hf, rfl⟩)
theorem hk_undo_0 : Cond.classLink RL 13 eISE ∈ wsL_undo := by decide +kernel
set_option maxRecDepth 20000 in
set_option maxHeartbeats 4000000 in
theorem h_undo {l : Launch} {D : va_G} {ad : Nat → Nat} {cI cL : ClassId} (hfl : l.flags = flags0) (hok : adOK ad) {μ : Mem} {f : Int32 → Mem → Prop} {xc : String → Prop} (hM : CtIX l D ad cI cL yX7_undo wsX7_undo (RMX 6 90 1 6) (.ref (ad 0) :: []) μ f xc 1 6) (hxc : ∀ E, xc E → E = eISE) : CtL l D ad cI cL yL_undo wsL_undo (RMX 10 200 4 24) [.ref (ad 0), .ref (ad 33)] μ f xc cd1h := by
  refine ct_l (cc := cL_undo) (maxL := 3) (own := RL) hfl hok (by decide) rfl rfl rfl (Nat.le_of_ble_eq_true rfl) (fun p e s m below meth c C hr hE htab => ?_)
  refine go_lv (lv' := [some (.ref (ad 0)), some (.ref (ad 33)), none]) rfl ?_
  refine go_aload1 C (pc := 0) dL_undo_0 ?_
  refine go_iconst C (pc := 1) (v := 0) (by decide) dL_undo_1 ?_
  refine go_aload0 C (pc := 2) dL_undo_2 ?_
  refine go_tryV C hE (pc := 3) (As := []) (k := 0) (st := [.int 0, .ref (ad 33)]) obj_0 hM rfl rfl gL_undo_X7_undo rfl rfl yok_X7_undo ⟨rfl, rfl⟩ ⟨Nat.le_of_ble_eq_true rfl, Nat.le_of_ble_eq_true rfl⟩ (Nat.le_of_ble_eq_true rfl) ⟨Nat.le_of_ble_eq_true rfl, Nat.le_of_ble_eq_true rfl⟩ dL_undo_3 (fun E hx => ?_) (fun r μ1 hf => ?_)
  · have h9 := hxc E hx
    subst h9
    refine xg_0 C hE (pc := 3) htab rfl (by decide) hk_undo_0 (by decide) (fun q => ?_)
    refine go_astore2 C (pc := 11) dL_undo_11 ?_
    refine go_iconst C (pc := 12) (v := 1) (by decide) dL_undo_12 ?_
    exact go_hret C hr hE ⟨Nat.le_of_ble_eq_true rfl, Nat.le_of_ble_eq_true rfl⟩ dL_undo_13 (Or.inr ⟨_, hx, rfl, rfl⟩)
  · refine go_i2l C (pc := 6) dL_undo_6 ?_
    refine go_lastO C (pc := 7) dL_undo_7 ?_
    refine go_goto C (pc := 8) (tgt := 14) dL_undo_8 (by decide) ?_
    refine go_iconst C (pc := 14) (v := 0) (by decide) dL_undo_14 ?_
    exact go_hret C hr hE ⟨Nat.le_of_ble_eq_true rfl, Nat.le_of_ble_eq_true rfl⟩ dL_undo_15 (Or.inl ⟨rfl, r, μ1, hf, rfl⟩)
theorem hk_restoreSnapshot_0 : Cond.classLink RL 13 eISE ∈ wsL_restoreSnapshot := by decide +kernel
set_option maxRecDepth 20000 in
set_option maxHeartbeats 4000000 in
theorem h_restoreSnapshot {l : Launch} {D : va_G} {ad : Nat → Nat} {cI cL : ClassId} (hfl : l.flags = flags0) (hok : adOK ad) {μ : Mem} {f : Int32 → Mem → Prop} {xc : String → Prop} (hM : CtIX l D ad cI cL yX7_restoreSnapshot wsX7_restoreSnapshot (RMX 6 90 1 6) (.ref (ad 0) :: []) μ f xc 1 6) (hxc : ∀ E, xc E → E = eISE) : CtL l D ad cI cL yL_restoreSnapshot wsL_restoreSnapshot (RMX 10 200 4 24) [.ref (ad 0), .ref (ad 33)] μ f xc cd1h := by
  refine ct_l (cc := cL_restoreSnapshot) (maxL := 3) (own := RL) hfl hok (by decide) rfl rfl rfl (Nat.le_of_ble_eq_true rfl) (fun p e s m below meth c C hr hE htab => ?_)
  refine go_lv (lv' := [some (.ref (ad 0)), some (.ref (ad 33)), none]) rfl ?_
  refine go_aload1 C (pc := 0) dL_restoreSnapshot_0 ?_
  refine go_iconst C (pc := 1) (v := 0) (by decide) dL_restoreSnapshot_1 ?_
  refine go_aload0 C (pc := 2) dL_restoreSnapshot_2 ?_
  refine go_tryV C hE (pc := 3) (As := []) (k := 0) (st := [.int 0, .ref (ad 33)]) obj_0 hM rfl rfl gL_restoreSnapshot_X7_restoreSnapshot rfl rfl yok_X7_restoreSnapshot ⟨rfl, rfl⟩ ⟨Nat.le_of_ble_eq_true rfl, Nat.le_of_ble_eq_true rfl⟩ (Nat.le_of_ble_eq_true rfl) ⟨Nat.le_of_ble_eq_true rfl, Nat.le_of_ble_eq_true rfl⟩ dL_restoreSnapshot_3 (fun E hx => ?_) (fun r μ1 hf => ?_)
  · have h9 := hxc E hx
    subst h9
    refine xg_0 C hE (pc := 3) htab rfl (by decide) hk_restoreSnapshot_0 (by decide) (fun q => ?_)
    refine go_astore2 C (pc := 11) dL_restoreSnapshot_11 ?_
    refine go_iconst C (pc := 12) (v := 1) (by decide) dL_restoreSnapshot_12 ?_
    exact go_hret C hr hE ⟨Nat.le_of_ble_eq_true rfl, Nat.le_of_ble_eq_true rfl⟩ dL_restoreSnapshot_13 (Or.inr ⟨_, hx, rfl, rfl⟩)
  · refine go_i2l C (pc := 6) dL_restoreSnapshot_6 ?_
    refine go_lastO C (pc := 7) dL_restoreSnapshot_7 ?_
    refine go_goto C (pc := 8) (tgt := 14) dL_restoreSnapshot_8 (by decide) ?_
    refine go_iconst C (pc := 14) (v := 0) (by decide) dL_restoreSnapshot_14 ?_
    exact go_hret C hr hE ⟨Nat.le_of_ble_eq_true rfl, Nat.le_of_ble_eq_true rfl⟩ dL_restoreSnapshot_15 (Or.inl ⟨rfl, r, μ1, hf, rfl⟩)
theorem hk_neighbors_0 : Cond.classLink RL 19 eIOB ∈ wsL_neighbors := by decide +kernel
set_option maxRecDepth 20000 in
set_option maxHeartbeats 4000000 in
theorem h_neighbors {l : Launch} {D : va_G} {ad : Nat → Nat} {cI cL : ClassId} (hfl : l.flags = flags0) (hok : adOK ad) (p0 : Int32) {μ : Mem} {f : Int32 → Mem → Prop} {xc : String → Prop} (hM : CtIX l D ad cI cL yX7_neighbors wsX7_neighbors (RMX 7 111 1 6) (.ref (ad 0) :: [.int p0]) μ f xc 1 6) (hxc : ∀ E, xc E → E = eIOB) : CtL l D ad cI cL yL_neighbors wsL_neighbors (RMX 10 200 4 24) [.ref (ad 0), .int p0, .ref (ad 33)] μ f xc cd1h := by
  refine ct_l (cc := cL_neighbors) (maxL := 4) (own := RL) hfl hok (by decide) rfl rfl rfl (Nat.le_of_ble_eq_true rfl) (fun p e s m below meth c C hr hE htab => ?_)
  refine go_lv (lv' := [some (.ref (ad 0)), some (.int p0), some (.ref (ad 33)), none]) rfl ?_
  refine go_aload2 C (pc := 0) dL_neighbors_0 ?_
  refine go_iconst C (pc := 1) (v := 0) (by decide) dL_neighbors_1 ?_
  refine go_aload0 C (pc := 2) dL_neighbors_2 ?_
  refine go_iload1 C (pc := 3) dL_neighbors_3 ?_
  refine go_tryV C hE (pc := 4) (As := [.int p0]) (k := 0) (st := [.int 0, .ref (ad 33)]) obj_0 hM rfl rfl gL_neighbors_X7_neighbors rfl rfl yok_X7_neighbors ⟨rfl, rfl⟩ ⟨Nat.le_of_ble_eq_true rfl, Nat.le_of_ble_eq_true rfl⟩ (Nat.le_of_ble_eq_true rfl) ⟨Nat.le_of_ble_eq_true rfl, Nat.le_of_ble_eq_true rfl⟩ dL_neighbors_4 (fun E hx => ?_) (fun r μ1 hf => ?_)
  · have h9 := hxc E hx
    subst h9
    refine xg_0 C hE (pc := 4) htab rfl (by decide) hk_neighbors_0 (by decide) (fun q => ?_)
    refine go_astore3 C (pc := 12) dL_neighbors_12 ?_
    refine go_iconst C (pc := 13) (v := 1) (by decide) dL_neighbors_13 ?_
    exact go_hret C hr hE ⟨Nat.le_of_ble_eq_true rfl, Nat.le_of_ble_eq_true rfl⟩ dL_neighbors_14 (Or.inr ⟨_, hx, rfl, rfl⟩)
  · refine go_i2l C (pc := 7) dL_neighbors_7 ?_
    refine go_lastO C (pc := 8) dL_neighbors_8 ?_
    refine go_goto C (pc := 9) (tgt := 15) dL_neighbors_9 (by decide) ?_
    refine go_iconst C (pc := 15) (v := 0) (by decide) dL_neighbors_15 ?_
    exact go_hret C hr hE ⟨Nat.le_of_ble_eq_true rfl, Nat.le_of_ble_eq_true rfl⟩ dL_neighbors_16 (Or.inl ⟨rfl, r, μ1, hf, rfl⟩)
theorem hk_isPropped_0 : Cond.classLink RL 19 eIOB ∈ wsL_isPropped := by decide +kernel
set_option maxRecDepth 20000 in
set_option maxHeartbeats 4000000 in
theorem h_isPropped {l : Launch} {D : va_G} {ad : Nat → Nat} {cI cL : ClassId} (hfl : l.flags = flags0) (hok : adOK ad) (p0 : Int32) {μ : Mem} {f : Int32 → Mem → Prop} {xc : String → Prop} (hM : CtIX l D ad cI cL yX7_isPropped wsX7_isPropped (RMX 7 111 1 6) (.ref (ad 0) :: [.int p0]) μ f xc 1 6) (hxc : ∀ E, xc E → E = eIOB) (hb : ∀ r μ', f r μ' → r = 0 ∨ r = 1) : CtL l D ad cI cL yL_isPropped wsL_isPropped (RMX 10 200 4 24) [.ref (ad 0), .int p0, .ref (ad 33)] μ f xc cd1h := by
  refine ct_l (cc := cL_isPropped) (maxL := 4) (own := RL) hfl hok (by decide) rfl rfl rfl (Nat.le_of_ble_eq_true rfl) (fun p e s m below meth c C hr hE htab => ?_)
  refine go_lv (lv' := [some (.ref (ad 0)), some (.int p0), some (.ref (ad 33)), none]) rfl ?_
  refine go_aload2 C (pc := 0) dL_isPropped_0 ?_
  refine go_iconst C (pc := 1) (v := 0) (by decide) dL_isPropped_1 ?_
  refine go_aload0 C (pc := 2) dL_isPropped_2 ?_
  refine go_iload1 C (pc := 3) dL_isPropped_3 ?_
  refine go_tryV C hE (pc := 4) (As := [.int p0]) (k := 0) (st := [.int 0, .ref (ad 33)]) obj_0 hM rfl rfl gL_isPropped_X7_isPropped rfl rfl yok_X7_isPropped ⟨rfl, rfl⟩ ⟨Nat.le_of_ble_eq_true rfl, Nat.le_of_ble_eq_true rfl⟩ (Nat.le_of_ble_eq_true rfl) ⟨Nat.le_of_ble_eq_true rfl, Nat.le_of_ble_eq_true rfl⟩ dL_isPropped_4 (fun E hx => ?_) (fun r μ1 hf => ?_)
  · have h9 := hxc E hx
    subst h9
    refine xg_0 C hE (pc := 4) htab rfl (by decide) hk_isPropped_0 (by decide) (fun q => ?_)
    refine go_astore3 C (pc := 19) dL_isPropped_19 ?_
    refine go_iconst C (pc := 20) (v := 1) (by decide) dL_isPropped_20 ?_
    exact go_hret C hr hE ⟨Nat.le_of_ble_eq_true rfl, Nat.le_of_ble_eq_true rfl⟩ dL_isPropped_21 (Or.inr ⟨_, hx, rfl, rfl⟩)
  · refine go_if_eq C (pc := 7) (tgt := 14) dL_isPropped_7 (by decide) (fun h7 => ?_) (fun h7 => ?_)
    · refine go_lconst C (pc := 14) (v := (0 : Int32).toInt64) rfl dL_isPropped_14 ?_
      refine go_lastO C (pc := 15) dL_isPropped_15 ?_
      refine go_goto C (pc := 16) (tgt := 22) dL_isPropped_16 (by decide) ?_
      refine go_iconst C (pc := 22) (v := 0) (by decide) dL_isPropped_22 ?_
      exact go_hret C hr hE ⟨Nat.le_of_ble_eq_true rfl, Nat.le_of_ble_eq_true rfl⟩ dL_isPropped_23 (Or.inl ⟨rfl, r, μ1, hf, by rw [h7]⟩)
    · refine go_lconst C (pc := 10) (v := (1 : Int32).toInt64) rfl dL_isPropped_10 ?_
      refine go_goto C (pc := 11) (tgt := 15) dL_isPropped_11 (by decide) ?_
      refine go_lastO C (pc := 15) dL_isPropped_15 ?_
      refine go_goto C (pc := 16) (tgt := 22) dL_isPropped_16 (by decide) ?_
      refine go_iconst C (pc := 22) (v := 0) (by decide) dL_isPropped_22 ?_
      exact go_hret C hr hE ⟨Nat.le_of_ble_eq_true rfl, Nat.le_of_ble_eq_true rfl⟩ dL_isPropped_23 (Or.inl ⟨rfl, r, μ1, hf, by rw [(hb r μ1 hf).resolve_left h7]⟩)
theorem hk_core_0 : Cond.classLink RL 25 eIAE ∈ wsL_core := by decide +kernel
set_option maxRecDepth 20000 in
set_option maxHeartbeats 4000000 in
theorem h_core {l : Launch} {D : va_G} {ad : Nat → Nat} {cI cL : ClassId} (hfl : l.flags = flags0) (hok : adOK ad) (p0 : Int32) {μ : Mem} {f : Int32 → Mem → Prop} {xc : String → Prop} (hM : CtIX l D ad cI cL yX7_core wsX7_core (RMX 7 111 1 6) (.ref (ad 0) :: [.int p0]) μ f xc 1 6) (hxc : ∀ E, xc E → E = eIAE) : CtL l D ad cI cL yL_core wsL_core (RMX 10 200 4 24) [.ref (ad 0), .int p0, .ref (ad 33)] μ f xc cd1h := by
  refine ct_l (cc := cL_core) (maxL := 4) (own := RL) hfl hok (by decide) rfl rfl rfl (Nat.le_of_ble_eq_true rfl) (fun p e s m below meth c C hr hE htab => ?_)
  refine go_lv (lv' := [some (.ref (ad 0)), some (.int p0), some (.ref (ad 33)), none]) rfl ?_
  refine go_aload2 C (pc := 0) dL_core_0 ?_
  refine go_iconst C (pc := 1) (v := 0) (by decide) dL_core_1 ?_
  refine go_aload0 C (pc := 2) dL_core_2 ?_
  refine go_iload1 C (pc := 3) dL_core_3 ?_
  refine go_tryV C hE (pc := 4) (As := [.int p0]) (k := 0) (st := [.int 0, .ref (ad 33)]) obj_0 hM rfl rfl gL_core_X7_core rfl rfl yok_X7_core ⟨rfl, rfl⟩ ⟨Nat.le_of_ble_eq_true rfl, Nat.le_of_ble_eq_true rfl⟩ (Nat.le_of_ble_eq_true rfl) ⟨Nat.le_of_ble_eq_true rfl, Nat.le_of_ble_eq_true rfl⟩ dL_core_4 (fun E hx => ?_) (fun r μ1 hf => ?_)
  · have h9 := hxc E hx
    subst h9
    refine xg_0 C hE (pc := 4) htab rfl (by decide) hk_core_0 (by decide) (fun q => ?_)
    refine go_astore3 C (pc := 12) dL_core_12 ?_
    refine go_iconst C (pc := 13) (v := 1) (by decide) dL_core_13 ?_
    exact go_hret C hr hE ⟨Nat.le_of_ble_eq_true rfl, Nat.le_of_ble_eq_true rfl⟩ dL_core_14 (Or.inr ⟨_, hx, rfl, rfl⟩)
  · refine go_i2l C (pc := 7) dL_core_7 ?_
    refine go_lastO C (pc := 8) dL_core_8 ?_
    refine go_goto C (pc := 9) (tgt := 15) dL_core_9 (by decide) ?_
    refine go_iconst C (pc := 15) (v := 0) (by decide) dL_core_15 ?_
    exact go_hret C hr hE ⟨Nat.le_of_ble_eq_true rfl, Nat.le_of_ble_eq_true rfl⟩ dL_core_16 (Or.inl ⟨rfl, r, μ1, hf, rfl⟩)
theorem hk_coreOf_0 : Cond.classLink RL 19 eIOB ∈ wsL_coreOf := by decide +kernel
set_option maxRecDepth 20000 in
set_option maxHeartbeats 4000000 in
theorem h_coreOf {l : Launch} {D : va_G} {ad : Nat → Nat} {cI cL : ClassId} (hfl : l.flags = flags0) (hok : adOK ad) (p0 : Int32) {μ : Mem} {f : Int32 → Mem → Prop} {xc : String → Prop} (hM : CtIX l D ad cI cL yX7_coreOf wsX7_coreOf (RMX 7 115 1 6) (.ref (ad 0) :: [.int p0]) μ f xc 1 6) (hxc : ∀ E, xc E → E = eIOB) : CtL l D ad cI cL yL_coreOf wsL_coreOf (RMX 10 200 4 24) [.ref (ad 0), .int p0, .ref (ad 33)] μ f xc cd1h := by
  refine ct_l (cc := cL_coreOf) (maxL := 4) (own := RL) hfl hok (by decide) rfl rfl rfl (Nat.le_of_ble_eq_true rfl) (fun p e s m below meth c C hr hE htab => ?_)
  refine go_lv (lv' := [some (.ref (ad 0)), some (.int p0), some (.ref (ad 33)), none]) rfl ?_
  refine go_aload2 C (pc := 0) dL_coreOf_0 ?_
  refine go_iconst C (pc := 1) (v := 0) (by decide) dL_coreOf_1 ?_
  refine go_aload0 C (pc := 2) dL_coreOf_2 ?_
  refine go_iload1 C (pc := 3) dL_coreOf_3 ?_
  refine go_tryV C hE (pc := 4) (As := [.int p0]) (k := 0) (st := [.int 0, .ref (ad 33)]) obj_0 hM rfl rfl gL_coreOf_X7_coreOf rfl rfl yok_X7_coreOf ⟨rfl, rfl⟩ ⟨Nat.le_of_ble_eq_true rfl, Nat.le_of_ble_eq_true rfl⟩ (Nat.le_of_ble_eq_true rfl) ⟨Nat.le_of_ble_eq_true rfl, Nat.le_of_ble_eq_true rfl⟩ dL_coreOf_4 (fun E hx => ?_) (fun r μ1 hf => ?_)
  · have h9 := hxc E hx
    subst h9
    refine xg_0 C hE (pc := 4) htab rfl (by decide) hk_coreOf_0 (by decide) (fun q => ?_)
    refine go_astore3 C (pc := 12) dL_coreOf_12 ?_
    refine go_iconst C (pc := 13) (v := 1) (by decide) dL_coreOf_13 ?_
    exact go_hret C hr hE ⟨Nat.le_of_ble_eq_true rfl, Nat.le_of_ble_eq_true rfl⟩ dL_coreOf_14 (Or.inr ⟨_, hx, rfl, rfl⟩)
  · refine go_i2l C (pc := 7) dL_coreOf_7 ?_
    refine go_lastO C (pc := 8) dL_coreOf_8 ?_
    refine go_goto C (pc := 9) (tgt := 15) dL_coreOf_9 (by decide) ?_
    refine go_iconst C (pc := 15) (v := 0) (by decide) dL_coreOf_15 ?_
    exact go_hret C hr hE ⟨Nat.le_of_ble_eq_true rfl, Nat.le_of_ble_eq_true rfl⟩ dL_coreOf_16 (Or.inl ⟨rfl, r, μ1, hf, rfl⟩)
theorem hk_coreByRounds_0 : Cond.classLink RL 19 eIOB ∈ wsL_coreByRounds := by decide +kernel
set_option maxRecDepth 20000 in
set_option maxHeartbeats 4000000 in
theorem h_coreByRounds {l : Launch} {D : va_G} {ad : Nat → Nat} {cI cL : ClassId} (hfl : l.flags = flags0) (hok : adOK ad) (p0 : Int32) {μ : Mem} {f : Int32 → Mem → Prop} {xc : String → Prop} (hM : CtIX l D ad cI cL yX7_coreByRounds wsX7_coreByRounds (RMX 7 134 1 6) (.ref (ad 0) :: [.int p0]) μ f xc 1 6) (hxc : ∀ E, xc E → E = eIOB) : CtL l D ad cI cL yL_coreByRounds wsL_coreByRounds (RMX 10 200 4 24) [.ref (ad 0), .int p0, .ref (ad 33)] μ f xc cd1h := by
  refine ct_l (cc := cL_coreByRounds) (maxL := 4) (own := RL) hfl hok (by decide) rfl rfl rfl (Nat.le_of_ble_eq_true rfl) (fun p e s m below meth c C hr hE htab => ?_)
  refine go_lv (lv' := [some (.ref (ad 0)), some (.int p0), some (.ref (ad 33)), none]) rfl ?_
  refine go_aload2 C (pc := 0) dL_coreByRounds_0 ?_
  refine go_iconst C (pc := 1) (v := 0) (by decide) dL_coreByRounds_1 ?_
  refine go_aload0 C (pc := 2) dL_coreByRounds_2 ?_
  refine go_iload1 C (pc := 3) dL_coreByRounds_3 ?_
  refine go_tryV C hE (pc := 4) (As := [.int p0]) (k := 0) (st := [.int 0, .ref (ad 33)]) obj_0 hM rfl rfl gL_coreByRounds_X7_coreByRounds rfl rfl yok_X7_coreByRounds ⟨rfl, rfl⟩ ⟨Nat.le_of_ble_eq_true rfl, Nat.le_of_ble_eq_true rfl⟩ (Nat.le_of_ble_eq_true rfl) ⟨Nat.le_of_ble_eq_true rfl, Nat.le_of_ble_eq_true rfl⟩ dL_coreByRounds_4 (fun E hx => ?_) (fun r μ1 hf => ?_)
  · have h9 := hxc E hx
    subst h9
    refine xg_0 C hE (pc := 4) htab rfl (by decide) hk_coreByRounds_0 (by decide) (fun q => ?_)
    refine go_astore3 C (pc := 12) dL_coreByRounds_12 ?_
    refine go_iconst C (pc := 13) (v := 1) (by decide) dL_coreByRounds_13 ?_
    exact go_hret C hr hE ⟨Nat.le_of_ble_eq_true rfl, Nat.le_of_ble_eq_true rfl⟩ dL_coreByRounds_14 (Or.inr ⟨_, hx, rfl, rfl⟩)
  · refine go_i2l C (pc := 7) dL_coreByRounds_7 ?_
    refine go_lastO C (pc := 8) dL_coreByRounds_8 ?_
    refine go_goto C (pc := 9) (tgt := 15) dL_coreByRounds_9 (by decide) ?_
    refine go_iconst C (pc := 15) (v := 0) (by decide) dL_coreByRounds_15 ?_
    exact go_hret C hr hE ⟨Nat.le_of_ble_eq_true rfl, Nat.le_of_ble_eq_true rfl⟩ dL_coreByRounds_16 (Or.inl ⟨rfl, r, μ1, hf, rfl⟩)
theorem hk_placeOf_0 : Cond.classLink RL 19 eIOB ∈ wsL_placeOf := by decide +kernel
set_option maxRecDepth 20000 in
set_option maxHeartbeats 4000000 in
theorem h_placeOf {l : Launch} {D : va_G} {ad : Nat → Nat} {cI cL : ClassId} (hfl : l.flags = flags0) (hok : adOK ad) (p0 : Int32) {μ : Mem} {f : Int32 → Mem → Prop} {xc : String → Prop} (hM : CtIX l D ad cI cL yX7_placeOf wsX7_placeOf (RMX 7 114 1 6) (.ref (ad 0) :: [.int p0]) μ f xc 1 6) (hxc : ∀ E, xc E → E = eIOB) : CtL l D ad cI cL yL_placeOf wsL_placeOf (RMX 10 200 4 24) [.ref (ad 0), .int p0, .ref (ad 33)] μ f xc cd1h := by
  refine ct_l (cc := cL_placeOf) (maxL := 4) (own := RL) hfl hok (by decide) rfl rfl rfl (Nat.le_of_ble_eq_true rfl) (fun p e s m below meth c C hr hE htab => ?_)
  refine go_lv (lv' := [some (.ref (ad 0)), some (.int p0), some (.ref (ad 33)), none]) rfl ?_
  refine go_aload2 C (pc := 0) dL_placeOf_0 ?_
  refine go_iconst C (pc := 1) (v := 0) (by decide) dL_placeOf_1 ?_
  refine go_aload0 C (pc := 2) dL_placeOf_2 ?_
  refine go_iload1 C (pc := 3) dL_placeOf_3 ?_
  refine go_tryV C hE (pc := 4) (As := [.int p0]) (k := 0) (st := [.int 0, .ref (ad 33)]) obj_0 hM rfl rfl gL_placeOf_X7_placeOf rfl rfl yok_X7_placeOf ⟨rfl, rfl⟩ ⟨Nat.le_of_ble_eq_true rfl, Nat.le_of_ble_eq_true rfl⟩ (Nat.le_of_ble_eq_true rfl) ⟨Nat.le_of_ble_eq_true rfl, Nat.le_of_ble_eq_true rfl⟩ dL_placeOf_4 (fun E hx => ?_) (fun r μ1 hf => ?_)
  · have h9 := hxc E hx
    subst h9
    refine xg_0 C hE (pc := 4) htab rfl (by decide) hk_placeOf_0 (by decide) (fun q => ?_)
    refine go_astore3 C (pc := 12) dL_placeOf_12 ?_
    refine go_iconst C (pc := 13) (v := 1) (by decide) dL_placeOf_13 ?_
    exact go_hret C hr hE ⟨Nat.le_of_ble_eq_true rfl, Nat.le_of_ble_eq_true rfl⟩ dL_placeOf_14 (Or.inr ⟨_, hx, rfl, rfl⟩)
  · refine go_i2l C (pc := 7) dL_placeOf_7 ?_
    refine go_lastO C (pc := 8) dL_placeOf_8 ?_
    refine go_goto C (pc := 9) (tgt := 15) dL_placeOf_9 (by decide) ?_
    refine go_iconst C (pc := 15) (v := 0) (by decide) dL_placeOf_15 ?_
    exact go_hret C hr hE ⟨Nat.le_of_ble_eq_true rfl, Nat.le_of_ble_eq_true rfl⟩ dL_placeOf_16 (Or.inl ⟨rfl, r, μ1, hf, rfl⟩)
theorem hk_corePieces_0 : Cond.classLink RL 25 eIAE ∈ wsL_corePieces := by decide +kernel
set_option maxRecDepth 20000 in
set_option maxHeartbeats 4000000 in
theorem h_corePieces {l : Launch} {D : va_G} {ad : Nat → Nat} {cI cL : ClassId} (hfl : l.flags = flags0) (hok : adOK ad) (p0 : Int32) {μ : Mem} {f : Int32 → Mem → Prop} {xc : String → Prop} (hM : CtIX l D ad cI cL yX7_corePieces wsX7_corePieces (RMX 7 111 1 6) (.ref (ad 0) :: [.int p0]) μ f xc 1 6) (hxc : ∀ E, xc E → E = eIAE) : CtL l D ad cI cL yL_corePieces wsL_corePieces (RMX 10 200 4 24) [.ref (ad 0), .int p0, .ref (ad 33)] μ f xc cd1h := by
  refine ct_l (cc := cL_corePieces) (maxL := 4) (own := RL) hfl hok (by decide) rfl rfl rfl (Nat.le_of_ble_eq_true rfl) (fun p e s m below meth c C hr hE htab => ?_)
  refine go_lv (lv' := [some (.ref (ad 0)), some (.int p0), some (.ref (ad 33)), none]) rfl ?_
  refine go_aload2 C (pc := 0) dL_corePieces_0 ?_
  refine go_iconst C (pc := 1) (v := 0) (by decide) dL_corePieces_1 ?_
  refine go_aload0 C (pc := 2) dL_corePieces_2 ?_
  refine go_iload1 C (pc := 3) dL_corePieces_3 ?_
  refine go_tryV C hE (pc := 4) (As := [.int p0]) (k := 0) (st := [.int 0, .ref (ad 33)]) obj_0 hM rfl rfl gL_corePieces_X7_corePieces rfl rfl yok_X7_corePieces ⟨rfl, rfl⟩ ⟨Nat.le_of_ble_eq_true rfl, Nat.le_of_ble_eq_true rfl⟩ (Nat.le_of_ble_eq_true rfl) ⟨Nat.le_of_ble_eq_true rfl, Nat.le_of_ble_eq_true rfl⟩ dL_corePieces_4 (fun E hx => ?_) (fun r μ1 hf => ?_)
  · have h9 := hxc E hx
    subst h9
    refine xg_0 C hE (pc := 4) htab rfl (by decide) hk_corePieces_0 (by decide) (fun q => ?_)
    refine go_astore3 C (pc := 12) dL_corePieces_12 ?_
    refine go_iconst C (pc := 13) (v := 1) (by decide) dL_corePieces_13 ?_
    exact go_hret C hr hE ⟨Nat.le_of_ble_eq_true rfl, Nat.le_of_ble_eq_true rfl⟩ dL_corePieces_14 (Or.inr ⟨_, hx, rfl, rfl⟩)
  · refine go_i2l C (pc := 7) dL_corePieces_7 ?_
    refine go_lastO C (pc := 8) dL_corePieces_8 ?_
    refine go_goto C (pc := 9) (tgt := 15) dL_corePieces_9 (by decide) ?_
    refine go_iconst C (pc := 15) (v := 0) (by decide) dL_corePieces_15 ?_
    exact go_hret C hr hE ⟨Nat.le_of_ble_eq_true rfl, Nat.le_of_ble_eq_true rfl⟩ dL_corePieces_16 (Or.inl ⟨rfl, r, μ1, hf, rfl⟩)
theorem hk_wouldFall_0 : Cond.classLink RL 19 eIOB ∈ wsL_wouldFall := by decide +kernel
theorem hk_wouldFall_1 : Cond.classLink RL 25 eIAE ∈ wsL_wouldFall := by decide +kernel
set_option maxRecDepth 20000 in
set_option maxHeartbeats 4000000 in
theorem h_wouldFall {l : Launch} {D : va_G} {ad : Nat → Nat} {cI cL : ClassId} (hfl : l.flags = flags0) (hok : adOK ad) (p0 p1 : Int32) {μ : Mem} {f : Int32 → Mem → Prop} {xc : String → Prop} (hM : CtIX l D ad cI cL yX7_wouldFall wsX7_wouldFall (RMX 7 111 2 12) (.ref (ad 0) :: [.int p0, .int p1]) μ f xc 2 12) (hxc : ∀ E, xc E → E = eIOB ∨ E = eIAE) : CtL l D ad cI cL yL_wouldFall wsL_wouldFall (RMX 10 200 4 24) [.ref (ad 0), .int p0, .int p1, .ref (ad 33)] μ f xc (cd2h eIOB) := by
  refine ct_l (cc := cL_wouldFall) (maxL := 5) (own := RL) hfl hok (by decide) rfl rfl rfl (Nat.le_of_ble_eq_true rfl) (fun p e s m below meth c C hr hE htab => ?_)
  refine go_lv (lv' := [some (.ref (ad 0)), some (.int p0), some (.int p1), some (.ref (ad 33)), none]) rfl ?_
  refine go_aload3 C (pc := 0) dL_wouldFall_0 ?_
  refine go_iconst C (pc := 1) (v := 0) (by decide) dL_wouldFall_1 ?_
  refine go_aload0 C (pc := 2) dL_wouldFall_2 ?_
  refine go_iload1 C (pc := 3) dL_wouldFall_3 ?_
  refine go_iload2 C (pc := 4) dL_wouldFall_4 ?_
  refine go_tryV C hE (pc := 5) (As := [.int p0, .int p1]) (k := 0) (st := [.int 0, .ref (ad 33)]) obj_0 hM rfl rfl gL_wouldFall_X7_wouldFall rfl rfl yok_X7_wouldFall ⟨rfl, rfl⟩ ⟨Nat.le_of_ble_eq_true rfl, Nat.le_of_ble_eq_true rfl⟩ (Nat.le_of_ble_eq_true rfl) ⟨Nat.le_of_ble_eq_true rfl, Nat.le_of_ble_eq_true rfl⟩ dL_wouldFall_5 (fun E hx => ?_) (fun r μ1 hf => ?_)
  · have h9 := hxc E hx
    rcases h9 with h9 | h9
    · skip
      subst h9
      refine xg_0 C hE (pc := 5) htab rfl (by decide) hk_wouldFall_0 (by decide) (fun q => ?_)
      refine go_astore4 C (pc := 13) dL_wouldFall_13 ?_
      refine go_iconst C (pc := 15) (v := 1) (by decide) dL_wouldFall_15 ?_
      exact go_hret C hr hE ⟨Nat.le_of_ble_eq_true rfl, Nat.le_of_ble_eq_true rfl⟩ dL_wouldFall_16 (Or.inr ⟨_, hx, by decide +kernel, rfl⟩)
    · skip
      subst h9
      refine xg_1 C hE (pc := 5) htab (by decide) hk_wouldFall_0 (by decide) (by decide) rfl (by decide) hk_wouldFall_1 (by decide) (fun q => ?_)
      refine go_astore4 C (pc := 17) dL_wouldFall_17 ?_
      refine go_iconst C (pc := 19) (v := 2) (by decide) dL_wouldFall_19 ?_
      exact go_hret C hr hE ⟨Nat.le_of_ble_eq_true rfl, Nat.le_of_ble_eq_true rfl⟩ dL_wouldFall_20 (Or.inr ⟨_, hx, by decide +kernel, rfl⟩)
  · refine go_i2l C (pc := 8) dL_wouldFall_8 ?_
    refine go_lastO C (pc := 9) dL_wouldFall_9 ?_
    refine go_goto C (pc := 10) (tgt := 21) dL_wouldFall_10 (by decide) ?_
    refine go_iconst C (pc := 21) (v := 0) (by decide) dL_wouldFall_21 ?_
    exact go_hret C hr hE ⟨Nat.le_of_ble_eq_true rfl, Nat.le_of_ble_eq_true rfl⟩ dL_wouldFall_22 (Or.inl ⟨rfl, r, μ1, hf, rfl⟩)
theorem hk_bestProp_0 : Cond.classLink RL 25 eIAE ∈ wsL_bestProp := by decide +kernel
theorem hk_bestProp_1 : Cond.classLink RL 77 eNSE ∈ wsL_bestProp := by decide +kernel
set_option maxRecDepth 20000 in
set_option maxHeartbeats 4000000 in
theorem h_bestProp {l : Launch} {D : va_G} {ad : Nat → Nat} {cI cL : ClassId} (hfl : l.flags = flags0) (hok : adOK ad) (p0 : Int32) {μ : Mem} {f : Int32 → Mem → Prop} {xc : String → Prop} (hM : CtIX l D ad cI cL yX7_bestProp wsX7_bestProp (RMX 7 118 2 12) (.ref (ad 0) :: [.int p0]) μ f xc 2 12) (hxc : ∀ E, xc E → E = eIAE ∨ E = eNSE) : CtL l D ad cI cL yL_bestProp wsL_bestProp (RMX 10 200 4 24) [.ref (ad 0), .int p0, .ref (ad 33)] μ f xc (cd2h eIAE) := by
  refine ct_l (cc := cL_bestProp) (maxL := 4) (own := RL) hfl hok (by decide) rfl rfl rfl (Nat.le_of_ble_eq_true rfl) (fun p e s m below meth c C hr hE htab => ?_)
  refine go_lv (lv' := [some (.ref (ad 0)), some (.int p0), some (.ref (ad 33)), none]) rfl ?_
  refine go_aload2 C (pc := 0) dL_bestProp_0 ?_
  refine go_iconst C (pc := 1) (v := 0) (by decide) dL_bestProp_1 ?_
  refine go_aload0 C (pc := 2) dL_bestProp_2 ?_
  refine go_iload1 C (pc := 3) dL_bestProp_3 ?_
  refine go_tryV C hE (pc := 4) (As := [.int p0]) (k := 0) (st := [.int 0, .ref (ad 33)]) obj_0 hM rfl rfl gL_bestProp_X7_bestProp rfl rfl yok_X7_bestProp ⟨rfl, rfl⟩ ⟨Nat.le_of_ble_eq_true rfl, Nat.le_of_ble_eq_true rfl⟩ (Nat.le_of_ble_eq_true rfl) ⟨Nat.le_of_ble_eq_true rfl, Nat.le_of_ble_eq_true rfl⟩ dL_bestProp_4 (fun E hx => ?_) (fun r μ1 hf => ?_)
  · have h9 := hxc E hx
    rcases h9 with h9 | h9
    · skip
      subst h9
      refine xg_0 C hE (pc := 4) htab rfl (by decide) hk_bestProp_0 (by decide) (fun q => ?_)
      refine go_astore3 C (pc := 12) dL_bestProp_12 ?_
      refine go_iconst C (pc := 13) (v := 1) (by decide) dL_bestProp_13 ?_
      exact go_hret C hr hE ⟨Nat.le_of_ble_eq_true rfl, Nat.le_of_ble_eq_true rfl⟩ dL_bestProp_14 (Or.inr ⟨_, hx, by decide +kernel, rfl⟩)
    · skip
      subst h9
      refine xg_1 C hE (pc := 4) htab (by decide) hk_bestProp_0 (by decide) (by decide) rfl (by decide) hk_bestProp_1 (by decide) (fun q => ?_)
      refine go_astore3 C (pc := 15) dL_bestProp_15 ?_
      refine go_iconst C (pc := 16) (v := 2) (by decide) dL_bestProp_16 ?_
      exact go_hret C hr hE ⟨Nat.le_of_ble_eq_true rfl, Nat.le_of_ble_eq_true rfl⟩ dL_bestProp_17 (Or.inr ⟨_, hx, by decide +kernel, rfl⟩)
  · refine go_i2l C (pc := 7) dL_bestProp_7 ?_
    refine go_lastO C (pc := 8) dL_bestProp_8 ?_
    refine go_goto C (pc := 9) (tgt := 18) dL_bestProp_9 (by decide) ?_
    refine go_iconst C (pc := 18) (v := 0) (by decide) dL_bestProp_18 ?_
    exact go_hret C hr hE ⟨Nat.le_of_ble_eq_true rfl, Nat.le_of_ble_eq_true rfl⟩ dL_bestProp_19 (Or.inl ⟨rfl, r, μ1, hf, rfl⟩)
theorem hk_support_0 : Cond.classLink RL 19 eIOB ∈ wsL_support := by decide +kernel
theorem hk_support_1 : Cond.classLink RL 77 eNSE ∈ wsL_support := by decide +kernel
set_option maxRecDepth 20000 in
set_option maxHeartbeats 4000000 in
theorem h_support {l : Launch} {D : va_G} {ad : Nat → Nat} {cI cL : ClassId} (hfl : l.flags = flags0) (hok : adOK ad) (p0 p1 : Int32) {μ : Mem} {f : Int32 → Mem → Prop} {xc : String → Prop} (hM : CtIX l D ad cI cL yX7_support wsX7_support (RMX 8 133 3 18) (.ref (ad 0) :: [.int p0, .int p1]) μ f xc 3 18) (hxc : ∀ E, xc E → E = eIOB ∨ E = eNSE) : CtL l D ad cI cL yL_support wsL_support (RMX 10 200 4 24) [.ref (ad 0), .int p0, .int p1, .ref (ad 33)] μ f xc (cd2h eIOB) := by
  refine ct_l (cc := cL_support) (maxL := 5) (own := RL) hfl hok (by decide) rfl rfl rfl (Nat.le_of_ble_eq_true rfl) (fun p e s m below meth c C hr hE htab => ?_)
  refine go_lv (lv' := [some (.ref (ad 0)), some (.int p0), some (.int p1), some (.ref (ad 33)), none]) rfl ?_
  refine go_aload3 C (pc := 0) dL_support_0 ?_
  refine go_iconst C (pc := 1) (v := 0) (by decide) dL_support_1 ?_
  refine go_aload0 C (pc := 2) dL_support_2 ?_
  refine go_iload1 C (pc := 3) dL_support_3 ?_
  refine go_iload2 C (pc := 4) dL_support_4 ?_
  refine go_tryV C hE (pc := 5) (As := [.int p0, .int p1]) (k := 0) (st := [.int 0, .ref (ad 33)]) obj_0 hM rfl rfl gL_support_X7_support rfl rfl yok_X7_support ⟨rfl, rfl⟩ ⟨Nat.le_of_ble_eq_true rfl, Nat.le_of_ble_eq_true rfl⟩ (Nat.le_of_ble_eq_true rfl) ⟨Nat.le_of_ble_eq_true rfl, Nat.le_of_ble_eq_true rfl⟩ dL_support_5 (fun E hx => ?_) (fun r μ1 hf => ?_)
  · have h9 := hxc E hx
    rcases h9 with h9 | h9
    · skip
      subst h9
      refine xg_0 C hE (pc := 5) htab rfl (by decide) hk_support_0 (by decide) (fun q => ?_)
      refine go_astore4 C (pc := 13) dL_support_13 ?_
      refine go_iconst C (pc := 15) (v := 1) (by decide) dL_support_15 ?_
      exact go_hret C hr hE ⟨Nat.le_of_ble_eq_true rfl, Nat.le_of_ble_eq_true rfl⟩ dL_support_16 (Or.inr ⟨_, hx, by decide +kernel, rfl⟩)
    · skip
      subst h9
      refine xg_1 C hE (pc := 5) htab (by decide) hk_support_0 (by decide) (by decide) rfl (by decide) hk_support_1 (by decide) (fun q => ?_)
      refine go_astore4 C (pc := 17) dL_support_17 ?_
      refine go_iconst C (pc := 19) (v := 2) (by decide) dL_support_19 ?_
      exact go_hret C hr hE ⟨Nat.le_of_ble_eq_true rfl, Nat.le_of_ble_eq_true rfl⟩ dL_support_20 (Or.inr ⟨_, hx, by decide +kernel, rfl⟩)
  · refine go_i2l C (pc := 8) dL_support_8 ?_
    refine go_lastO C (pc := 9) dL_support_9 ?_
    refine go_goto C (pc := 10) (tgt := 21) dL_support_10 (by decide) ?_
    refine go_iconst C (pc := 21) (v := 0) (by decide) dL_support_21 ?_
    exact go_hret C hr hE ⟨Nat.le_of_ble_eq_true rfl, Nat.le_of_ble_eq_true rfl⟩ dL_support_22 (Or.inl ⟨rfl, r, μ1, hf, rfl⟩)
theorem hk_trussOf_0 : Cond.classLink RL 19 eIOB ∈ wsL_trussOf := by decide +kernel
theorem hk_trussOf_1 : Cond.classLink RL 77 eNSE ∈ wsL_trussOf := by decide +kernel
set_option maxRecDepth 20000 in
set_option maxHeartbeats 4000000 in
theorem h_trussOf {l : Launch} {D : va_G} {ad : Nat → Nat} {cI cL : ClassId} (hfl : l.flags = flags0) (hok : adOK ad) (p0 p1 : Int32) {μ : Mem} {f : Int32 → Mem → Prop} {xc : String → Prop} (hM : CtIX l D ad cI cL yX7_trussOf wsX7_trussOf (RMX 8 133 3 18) (.ref (ad 0) :: [.int p0, .int p1]) μ f xc 3 18) (hxc : ∀ E, xc E → E = eIOB ∨ E = eNSE) : CtL l D ad cI cL yL_trussOf wsL_trussOf (RMX 10 200 4 24) [.ref (ad 0), .int p0, .int p1, .ref (ad 33)] μ f xc (cd2h eIOB) := by
  refine ct_l (cc := cL_trussOf) (maxL := 5) (own := RL) hfl hok (by decide) rfl rfl rfl (Nat.le_of_ble_eq_true rfl) (fun p e s m below meth c C hr hE htab => ?_)
  refine go_lv (lv' := [some (.ref (ad 0)), some (.int p0), some (.int p1), some (.ref (ad 33)), none]) rfl ?_
  refine go_aload3 C (pc := 0) dL_trussOf_0 ?_
  refine go_iconst C (pc := 1) (v := 0) (by decide) dL_trussOf_1 ?_
  refine go_aload0 C (pc := 2) dL_trussOf_2 ?_
  refine go_iload1 C (pc := 3) dL_trussOf_3 ?_
  refine go_iload2 C (pc := 4) dL_trussOf_4 ?_
  refine go_tryV C hE (pc := 5) (As := [.int p0, .int p1]) (k := 0) (st := [.int 0, .ref (ad 33)]) obj_0 hM rfl rfl gL_trussOf_X7_trussOf rfl rfl yok_X7_trussOf ⟨rfl, rfl⟩ ⟨Nat.le_of_ble_eq_true rfl, Nat.le_of_ble_eq_true rfl⟩ (Nat.le_of_ble_eq_true rfl) ⟨Nat.le_of_ble_eq_true rfl, Nat.le_of_ble_eq_true rfl⟩ dL_trussOf_5 (fun E hx => ?_) (fun r μ1 hf => ?_)
  · have h9 := hxc E hx
    rcases h9 with h9 | h9
    · skip
      subst h9
      refine xg_0 C hE (pc := 5) htab rfl (by decide) hk_trussOf_0 (by decide) (fun q => ?_)
      refine go_astore4 C (pc := 13) dL_trussOf_13 ?_
      refine go_iconst C (pc := 15) (v := 1) (by decide) dL_trussOf_15 ?_
      exact go_hret C hr hE ⟨Nat.le_of_ble_eq_true rfl, Nat.le_of_ble_eq_true rfl⟩ dL_trussOf_16 (Or.inr ⟨_, hx, by decide +kernel, rfl⟩)
    · skip
      subst h9
      refine xg_1 C hE (pc := 5) htab (by decide) hk_trussOf_0 (by decide) (by decide) rfl (by decide) hk_trussOf_1 (by decide) (fun q => ?_)
      refine go_astore4 C (pc := 17) dL_trussOf_17 ?_
      refine go_iconst C (pc := 19) (v := 2) (by decide) dL_trussOf_19 ?_
      exact go_hret C hr hE ⟨Nat.le_of_ble_eq_true rfl, Nat.le_of_ble_eq_true rfl⟩ dL_trussOf_20 (Or.inr ⟨_, hx, by decide +kernel, rfl⟩)
  · refine go_i2l C (pc := 8) dL_trussOf_8 ?_
    refine go_lastO C (pc := 9) dL_trussOf_9 ?_
    refine go_goto C (pc := 10) (tgt := 21) dL_trussOf_10 (by decide) ?_
    refine go_iconst C (pc := 21) (v := 0) (by decide) dL_trussOf_21 ?_
    exact go_hret C hr hE ⟨Nat.le_of_ble_eq_true rfl, Nat.le_of_ble_eq_true rfl⟩ dL_trussOf_22 (Or.inl ⟨rfl, r, μ1, hf, rfl⟩)
theorem hk_trussByRounds_0 : Cond.classLink RL 19 eIOB ∈ wsL_trussByRounds := by decide +kernel
theorem hk_trussByRounds_1 : Cond.classLink RL 77 eNSE ∈ wsL_trussByRounds := by decide +kernel
set_option maxRecDepth 20000 in
set_option maxHeartbeats 4000000 in
theorem h_trussByRounds {l : Launch} {D : va_G} {ad : Nat → Nat} {cI cL : ClassId} (hfl : l.flags = flags0) (hok : adOK ad) (p0 p1 : Int32) {μ : Mem} {f : Int32 → Mem → Prop} {xc : String → Prop} (hM : CtIX l D ad cI cL yX7_trussByRounds wsX7_trussByRounds (RMX 8 140 3 18) (.ref (ad 0) :: [.int p0, .int p1]) μ f xc 3 18) (hxc : ∀ E, xc E → E = eIOB ∨ E = eNSE) : CtL l D ad cI cL yL_trussByRounds wsL_trussByRounds (RMX 10 200 4 24) [.ref (ad 0), .int p0, .int p1, .ref (ad 33)] μ f xc (cd2h eIOB) := by
  refine ct_l (cc := cL_trussByRounds) (maxL := 5) (own := RL) hfl hok (by decide) rfl rfl rfl (Nat.le_of_ble_eq_true rfl) (fun p e s m below meth c C hr hE htab => ?_)
  refine go_lv (lv' := [some (.ref (ad 0)), some (.int p0), some (.int p1), some (.ref (ad 33)), none]) rfl ?_
  refine go_aload3 C (pc := 0) dL_trussByRounds_0 ?_
  refine go_iconst C (pc := 1) (v := 0) (by decide) dL_trussByRounds_1 ?_
  refine go_aload0 C (pc := 2) dL_trussByRounds_2 ?_
  refine go_iload1 C (pc := 3) dL_trussByRounds_3 ?_
  refine go_iload2 C (pc := 4) dL_trussByRounds_4 ?_
  refine go_tryV C hE (pc := 5) (As := [.int p0, .int p1]) (k := 0) (st := [.int 0, .ref (ad 33)]) obj_0 hM rfl rfl gL_trussByRounds_X7_trussByRounds rfl rfl yok_X7_trussByRounds ⟨rfl, rfl⟩ ⟨Nat.le_of_ble_eq_true rfl, Nat.le_of_ble_eq_true rfl⟩ (Nat.le_of_ble_eq_true rfl) ⟨Nat.le_of_ble_eq_true rfl, Nat.le_of_ble_eq_true rfl⟩ dL_trussByRounds_5 (fun E hx => ?_) (fun r μ1 hf => ?_)
  · have h9 := hxc E hx
    rcases h9 with h9 | h9
    · skip
      subst h9
      refine xg_0 C hE (pc := 5) htab rfl (by decide) hk_trussByRounds_0 (by decide) (fun q => ?_)
      refine go_astore4 C (pc := 13) dL_trussByRounds_13 ?_
      refine go_iconst C (pc := 15) (v := 1) (by decide) dL_trussByRounds_15 ?_
      exact go_hret C hr hE ⟨Nat.le_of_ble_eq_true rfl, Nat.le_of_ble_eq_true rfl⟩ dL_trussByRounds_16 (Or.inr ⟨_, hx, by decide +kernel, rfl⟩)
    · skip
      subst h9
      refine xg_1 C hE (pc := 5) htab (by decide) hk_trussByRounds_0 (by decide) (by decide) rfl (by decide) hk_trussByRounds_1 (by decide) (fun q => ?_)
      refine go_astore4 C (pc := 17) dL_trussByRounds_17 ?_
      refine go_iconst C (pc := 19) (v := 2) (by decide) dL_trussByRounds_19 ?_
      exact go_hret C hr hE ⟨Nat.le_of_ble_eq_true rfl, Nat.le_of_ble_eq_true rfl⟩ dL_trussByRounds_20 (Or.inr ⟨_, hx, by decide +kernel, rfl⟩)
  · refine go_i2l C (pc := 8) dL_trussByRounds_8 ?_
    refine go_lastO C (pc := 9) dL_trussByRounds_9 ?_
    refine go_goto C (pc := 10) (tgt := 21) dL_trussByRounds_10 (by decide) ?_
    refine go_iconst C (pc := 21) (v := 0) (by decide) dL_trussByRounds_21 ?_
    exact go_hret C hr hE ⟨Nat.le_of_ble_eq_true rfl, Nat.le_of_ble_eq_true rfl⟩ dL_trussByRounds_22 (Or.inl ⟨rfl, r, μ1, hf, rfl⟩)
theorem hk_trussSize_0 : Cond.classLink RL 25 eIAE ∈ wsL_trussSize := by decide +kernel
set_option maxRecDepth 20000 in
set_option maxHeartbeats 4000000 in
theorem h_trussSize {l : Launch} {D : va_G} {ad : Nat → Nat} {cI cL : ClassId} (hfl : l.flags = flags0) (hok : adOK ad) (p0 : Int32) {μ : Mem} {f : Int32 → Mem → Prop} {xc : String → Prop} (hM : CtIX l D ad cI cL yX7_trussSize wsX7_trussSize (RMX 7 111 1 6) (.ref (ad 0) :: [.int p0]) μ f xc 1 6) (hxc : ∀ E, xc E → E = eIAE) : CtL l D ad cI cL yL_trussSize wsL_trussSize (RMX 10 200 4 24) [.ref (ad 0), .int p0, .ref (ad 33)] μ f xc cd1h := by
  refine ct_l (cc := cL_trussSize) (maxL := 4) (own := RL) hfl hok (by decide) rfl rfl rfl (Nat.le_of_ble_eq_true rfl) (fun p e s m below meth c C hr hE htab => ?_)
  refine go_lv (lv' := [some (.ref (ad 0)), some (.int p0), some (.ref (ad 33)), none]) rfl ?_
  refine go_aload2 C (pc := 0) dL_trussSize_0 ?_
  refine go_iconst C (pc := 1) (v := 0) (by decide) dL_trussSize_1 ?_
  refine go_aload0 C (pc := 2) dL_trussSize_2 ?_
  refine go_iload1 C (pc := 3) dL_trussSize_3 ?_
  refine go_tryV C hE (pc := 4) (As := [.int p0]) (k := 0) (st := [.int 0, .ref (ad 33)]) obj_0 hM rfl rfl gL_trussSize_X7_trussSize rfl rfl yok_X7_trussSize ⟨rfl, rfl⟩ ⟨Nat.le_of_ble_eq_true rfl, Nat.le_of_ble_eq_true rfl⟩ (Nat.le_of_ble_eq_true rfl) ⟨Nat.le_of_ble_eq_true rfl, Nat.le_of_ble_eq_true rfl⟩ dL_trussSize_4 (fun E hx => ?_) (fun r μ1 hf => ?_)
  · have h9 := hxc E hx
    subst h9
    refine xg_0 C hE (pc := 4) htab rfl (by decide) hk_trussSize_0 (by decide) (fun q => ?_)
    refine go_astore3 C (pc := 12) dL_trussSize_12 ?_
    refine go_iconst C (pc := 13) (v := 1) (by decide) dL_trussSize_13 ?_
    exact go_hret C hr hE ⟨Nat.le_of_ble_eq_true rfl, Nat.le_of_ble_eq_true rfl⟩ dL_trussSize_14 (Or.inr ⟨_, hx, rfl, rfl⟩)
  · refine go_i2l C (pc := 7) dL_trussSize_7 ?_
    refine go_lastO C (pc := 8) dL_trussSize_8 ?_
    refine go_goto C (pc := 9) (tgt := 15) dL_trussSize_9 (by decide) ?_
    refine go_iconst C (pc := 15) (v := 0) (by decide) dL_trussSize_15 ?_
    exact go_hret C hr hE ⟨Nat.le_of_ble_eq_true rfl, Nat.le_of_ble_eq_true rfl⟩ dL_trussSize_16 (Or.inl ⟨rfl, r, μ1, hf, rfl⟩)
theorem hk_colorOf_0 : Cond.classLink RL 19 eIOB ∈ wsL_colorOf := by decide +kernel
set_option maxRecDepth 20000 in
set_option maxHeartbeats 4000000 in
theorem h_colorOf {l : Launch} {D : va_G} {ad : Nat → Nat} {cI cL : ClassId} (hfl : l.flags = flags0) (hok : adOK ad) (p0 : Int32) {μ : Mem} {f : Int32 → Mem → Prop} {xc : String → Prop} (hM : CtIX l D ad cI cL yX7_colorOf wsX7_colorOf (RMX 7 136 1 6) (.ref (ad 0) :: [.int p0]) μ f xc 1 6) (hxc : ∀ E, xc E → E = eIOB) : CtL l D ad cI cL yL_colorOf wsL_colorOf (RMX 10 200 4 24) [.ref (ad 0), .int p0, .ref (ad 33)] μ f xc cd1h := by
  refine ct_l (cc := cL_colorOf) (maxL := 4) (own := RL) hfl hok (by decide) rfl rfl rfl (Nat.le_of_ble_eq_true rfl) (fun p e s m below meth c C hr hE htab => ?_)
  refine go_lv (lv' := [some (.ref (ad 0)), some (.int p0), some (.ref (ad 33)), none]) rfl ?_
  refine go_aload2 C (pc := 0) dL_colorOf_0 ?_
  refine go_iconst C (pc := 1) (v := 0) (by decide) dL_colorOf_1 ?_
  refine go_aload0 C (pc := 2) dL_colorOf_2 ?_
  refine go_iload1 C (pc := 3) dL_colorOf_3 ?_
  refine go_tryV C hE (pc := 4) (As := [.int p0]) (k := 0) (st := [.int 0, .ref (ad 33)]) obj_0 hM rfl rfl gL_colorOf_X7_colorOf rfl rfl yok_X7_colorOf ⟨rfl, rfl⟩ ⟨Nat.le_of_ble_eq_true rfl, Nat.le_of_ble_eq_true rfl⟩ (Nat.le_of_ble_eq_true rfl) ⟨Nat.le_of_ble_eq_true rfl, Nat.le_of_ble_eq_true rfl⟩ dL_colorOf_4 (fun E hx => ?_) (fun r μ1 hf => ?_)
  · have h9 := hxc E hx
    subst h9
    refine xg_0 C hE (pc := 4) htab rfl (by decide) hk_colorOf_0 (by decide) (fun q => ?_)
    refine go_astore3 C (pc := 12) dL_colorOf_12 ?_
    refine go_iconst C (pc := 13) (v := 1) (by decide) dL_colorOf_13 ?_
    exact go_hret C hr hE ⟨Nat.le_of_ble_eq_true rfl, Nat.le_of_ble_eq_true rfl⟩ dL_colorOf_14 (Or.inr ⟨_, hx, rfl, rfl⟩)
  · refine go_i2l C (pc := 7) dL_colorOf_7 ?_
    refine go_lastO C (pc := 8) dL_colorOf_8 ?_
    refine go_goto C (pc := 9) (tgt := 15) dL_colorOf_9 (by decide) ?_
    refine go_iconst C (pc := 15) (v := 0) (by decide) dL_colorOf_15 ?_
    exact go_hret C hr hE ⟨Nat.le_of_ble_eq_true rfl, Nat.le_of_ble_eq_true rfl⟩ dL_colorOf_16 (Or.inl ⟨rfl, r, μ1, hf, rfl⟩)
