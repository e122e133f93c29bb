/-! ===== ThornCoresModel: the order of falling, the colors ===== -/
def fdI (th : Nat → Int32) (pr : Int32) (n : Nat) (L : Int32) (t : Nat) (x : Int32) : Prop :=
  (x = -1 ∧ ∀ q, t ≤ q → q < n → bt (wtI pr L) q = false) ∨ ∃ f, x = nI f ∧ t ≤ f ∧ f < n ∧ bt (wtI pr L) f = true ∧ ∀ q, t ≤ q → q < n → bt (wtI pr L) q = true → nbN th pr L f < nbN th pr L q ∨ (nbN th pr L f = nbN th pr L q ∧ f ≤ q)
section FD
variable {th : Nat → Int32} {pr L x : Int32} {n t : Nat}
theorem fd_0 : fdI th pr n L n (-1) := Or.inl ⟨rfl, fun q h1 h2 => absurd h2 (by omega)⟩
theorem fd_neg (h : fdI th pr n L t x) (hn : n ≤ 16) (hx : x < 0) : x = -1 := by
  rcases h with h | ⟨f, rfl, -, hf, -⟩
  · exact h.1
  · exact absurd hx (nI_pos (by omega))
theorem fd_pos (h : fdI th pr n L t x) (hx : ¬ x < 0) : ∃ f, x = nI f ∧ f < n := by
  rcases h with h | ⟨f, h1, -, hf, -⟩
  · rw [h.1] at hx; exact absurd (by decide) hx
  · exact ⟨f, h1, hf⟩
theorem fd_skip (h : fdI th pr n L (t + 1) x) (hw : bt (wtI pr L) t = false) : fdI th pr n L t x := by
  rcases h with ⟨h1, h2⟩ | ⟨f, h1, h2, h3, h4, h5⟩
  · refine Or.inl ⟨h1, fun q hq hqn => ?_⟩
    rcases Nat.lt_or_ge t q with w | w
    · exact h2 q w hqn
    · rw [show q = t by omega]; exact hw
  · refine Or.inr ⟨f, h1, by omega, h3, h4, fun q hq hqn hb => ?_⟩
    rcases Nat.lt_or_ge t q with w | w
    · exact h5 q w hqn hb
    · rw [show q = t by omega, hw] at hb; cases hb
theorem fd_keep {f : Nat} (h : fdI th pr n L (t + 1) (nI f)) (hf : f < n) (hn : n ≤ 16) (hw : nbN th pr L f < nbN th pr L t) : fdI th pr n L t (nI f) := by
  rcases h with ⟨h1, h2⟩ | ⟨f', h1, h2, h3, h4, h5⟩
  · exact absurd (show nI f < 0 by rw [h1]; decide) (nI_pos (by omega))
  · have e : f = f' := nI_inj3 (by omega) (by omega) h1
    subst e
    refine Or.inr ⟨f, rfl, by omega, h3, h4, fun q hq hqn hb => ?_⟩
    rcases Nat.lt_or_ge t q with w | w
    · exact h5 q w hqn hb
    · rw [show q = t by omega]; exact Or.inl hw
theorem fd_take (h : fdI th pr n L (t + 1) x) (ht : t < n) (hn : n ≤ 16) (hb : bt (wtI pr L) t = true) (hw : x = -1 ∨ ∀ f, x = nI f → f < n → nbN th pr L t ≤ nbN th pr L f) : fdI th pr n L t (nI t) := by
  refine Or.inr ⟨t, rfl, Nat.le_refl _, ht, hb, fun q hq hqn hb2 => ?_⟩
  rcases Nat.lt_or_ge t q with w | w
  · rcases h with ⟨h1, h2⟩ | ⟨f, h1, h2, h3, h4, h5⟩
    · rw [h2 q w hqn] at hb2; cases hb2
    · have h6 := h5 q w hqn hb2
      rcases hw with hw | hw
      · exact absurd (show nI f < 0 by rw [← h1, hw]; decide) (nI_pos (by omega))
      · have := hw f h1 h3
        omega
  · rw [show q = t by omega]; exact Or.inr ⟨rfl, Nat.le_refl _⟩
theorem fd_end (hT : TV n pr th) (hL : sub L (allI n)) (hne : ∃ q, bt L q = true) (h : fdI th pr n L 0 x) : x = nI (nextN th pr n L) := by
  obtain ⟨h1, -, h3, h4, h5⟩ := next_in hT hL hne
  rcases h with ⟨-, w⟩ | ⟨f, e, -, hf, hb, w⟩
  · rw [w _ (Nat.zero_le _) h1] at h3; cases h3
  · rw [e]
    have a := w _ (Nat.zero_le _) h1 h3
    have b := h4 f hf hb
    rcases Nat.lt_or_ge f (nextN th pr n L) with q | q
    · have := h5 f q hb; omega
    · rw [show f = nextN th pr n L by omega]
theorem wt_not1 (h : bt L t = false) : bt (wtI pr L) t = false := by
  cases q : bt (wtI pr L) t
  · rfl
  · rw [wt_sub t q] at h; cases h
theorem wt_fr (hf : ¬ frI pr L = 0) (ht : t < 32) : bt (wtI pr L) t = (bt L t && !bt pr t) := by rw [wtI, if_neg hf, bt_fr ht]
theorem wt_nf (hf : frI pr L = 0) : bt (wtI pr L) t = bt L t := by rw [wtI, if_pos hf]
end FD
theorem n1_s (t : Nat) : nI (t + 1) - 1 = nI t := by rw [← nI_1, Int32.add_sub_cancel]
theorem m1_s (x : Int32) : x + (-1) = x - 1 := by rw [Int32.sub_eq_add_neg]
theorem ct_or1 {x : Int32} {c : Nat} (hc : c < 16) : ct (x ||| bitI (nI c)) ≤ ct x + 1 := by
  have h := fb_ct_upd (bt x) true hc
  have e : fb_ct (fun k => if k = c then true else bt x k) 16 = ct (x ||| bitI (nI c)) := fb_ct_cong (fun k _ => by
    rw [b_or, bitI, b_bit (by omega)]
    by_cases q : k = c <;> simp [q])
  rw [e] at h
  have e2 : ct x = fb_ct (bt x) 16 := rfl
  split at h <;> simp at h <;> omega
theorem ct_tk {g : Nat → Nat} {S : Int32} (hg : ∀ q, g q ≤ 15) : ∀ i, ct (tkI g S i) ≤ fb_ct (bt S) i
  | 0 => by show ct 0 ≤ 0; decide +kernel
  | i + 1 => by
    have ih := ct_tk (S := S) hg i
    have h15 := hg i
    rw [tkI, fb_ct_succ]
    split
    · have := ct_or1 (x := tkI g S i) (c := g i) (by omega)
      omega
    · omega
theorem ct_full {x : Int32} (h : ∀ i, i < 16 → bt x i = true) : ct x = 16 := by
  have e : ct x = ct (allI 16) := ct_cong (fun i hi => by rw [h i hi, bt_all (by decide)]; exact (decide_eq_true hi).symm)
  rw [e, ct_all (by decide)]
theorem lc_step {T : Int32} : ∀ c, c ≤ 16 → (∀ x, x < c → bt T x = true) → lcG T 16 0 = lcG T (16 - c) c
  | 0, _, _ => rfl
  | c + 1, hc, h => by
    rw [lc_step c (by omega) (fun x hx => h x (by omega)), show 16 - c = (16 - (c + 1)) + 1 by omega, lcG, if_pos (h c (Nat.lt_succ_self c))]
theorem lc_at {T : Int32} {c : Nat} (hc : c ≤ 15) (h : ∀ x, x < c → bt T x = true) (h2 : bt T c = false) : lcN T = c := by
  unfold lcN
  rw [lc_step c (by omega) h, show 16 - c = (15 - c) + 1 by omega, lcG, if_neg (by rw [h2]; decide)]
theorem yok_X8_falls : yOK yX8_falls 0 := by unfold yOK; decide +kernel
theorem hi_X8_falls_RX8 : ∀ w ∈ wsX80, w ∈ wsX8_falls := by decide +kernel
theorem lk_X8_falls_7 : Cond.fieldLink RX8 7 "ThornCoresModel" "s" "[I" ∈ wsX8_falls := by decide +kernel
theorem lk_X8_falls_22 : Cond.fieldLink RX8 22 "ThornCoresModel" "order" "[I" ∈ wsX8_falls := by decide +kernel
set_option maxRecDepth 20000 in
set_option maxHeartbeats 4000000 in
theorem c_X8_falls {l : Launch} {D : va_G} {ad : Nat → Nat} {cI cL : ClassId} (hfl : l.flags = flags0) (hok : adOK ad) (μ : Mem) {n : Nat} {pr : Int32} {th : Nat → Int32} (hM : Mo μ n pr th) (hT : TV n pr th) : CtV l D ad cI cL yX8_falls wsX8_falls (RM 1 22) [.ref (ad 25)] μ (fun (μ' : Mem) => ∃ F, μ' = mset μ 30 F ∧ ∀ i, i < n → F i = nI (ordN th pr n i)) := by
  refine ct_v (cc := cX8_falls) (maxL := 8) (own := RX8) hfl hok (by decide) rfl rfl rfl (Nat.le_of_ble_eq_true rfl) (fun p e s m below meth c C hr => ?_)
  refine go_lv (lv' := [some (.ref (ad 25)), none, none, none, none, none, none, none]) rfl ?_
  obtain ⟨hs0, hs1, hth⟩ := id hM
  have hn := hT.1
  have key : ∀ i, i ≤ n → ∀ F, (∀ z, z < i → F z = nI (ordN th pr n z)) → Go p l e (headSpec wsX8_falls (RM 1 22)).room s m ([.ref (ad 25)] : List Value).toArray below meth c 0 0 (MQ below (va_Qv (fun (μ' : Mem) => ∃ F, μ' = mset μ 30 F ∧ ∀ i, i < n → F i = nI (ordN th pr n i)) (fun μ' t => PreW D ad cI cL μ' t) (AW ad)) ([.ref (ad 25)] : List Value).toArray s 0 0 (AW ad)) (AW ad) D ad cI cL 8 7 [some (.ref (ad 25)), some (.int (lefS th pr n i)), some (.int (nI i)), none, none, none, none, none] [] (mset μ 30 F) := by
    refine dn_ind ?_ ?_
    · intro F hF
      refine go_iload2 C (pc := 7) dX8_falls_7 ?_
      refine go_aload0 C (pc := 8) dX8_falls_8 ?_
      refine go_get C (pc := 9) 25 (by decide) rfl rfl 0 (by decide) rfl rfl hi_X8_falls_RX8 lk_X8_falls_7 dX8_falls_9 ?_
      refine go_iconst C (pc := 12) (v := 0) (by decide) dX8_falls_12 ?_
      refine go_top (y := nI 0) (by first | rfl | decide +kernel) ?_
      refine go_ialdN C (pc := 13) arr_26 (i := 0) (by omega) dX8_falls_13 ?_
      refine go_top (y := nI n) hs0 ?_
      refine go_icmp_ge C (pc := 14) (tgt := 183) dX8_falls_14 (by decide) (fun h14 => ?_) (fun h14 => ?_)
      · exact go_vret C hr dX8_falls_183 (⟨F, rfl, hF⟩)
      · exact absurd (nI_le (Nat.le_refl _) (by omega)) h14
    · intro i hi ih F hF
      have hne : ∃ q, bt (lefS th pr n i) q = true := ⟨_, (ord_in hT hi).2⟩
      have key2 : ∀ t, t ≤ n → ∀ x, fdI th pr n (lefS th pr n i) t x → Go p l e (headSpec wsX8_falls (RM 1 22)).room s m ([.ref (ad 25)] : List Value).toArray below meth c 0 0 (MQ below (va_Qv (fun (μ' : Mem) => ∃ F, μ' = mset μ 30 F ∧ ∀ i, i < n → F i = nI (ordN th pr n i)) (fun μ' t => PreW D ad cI cL μ' t) (AW ad)) ([.ref (ad 25)] : List Value).toArray s 0 0 (AW ad)) (AW ad) D ad cI cL 8 49 [some (.ref (ad 25)), some (.int (lefS th pr n i)), some (.int (nI i)), some (.int (b2i (!decide (frI pr (lefS th pr n i) = 0)))), some (.int x), some (.int (nI t - 1)), none, none] [] (mset μ 30 F) := by
        intro t
        induction t with
        | zero =>
          intro _ x hI
          have hx := fd_end hT (lef_sub i) hne hI
          subst hx
          refine go_iload5 C (pc := 49) dX8_falls_49 ?_
          refine go_if_lt C (pc := 51) (tgt := 160) dX8_falls_51 (by decide) (fun h51 => ?_) (fun h51 => ?_)
          · refine go_aload0 C (pc := 160) dX8_falls_160 ?_
            refine go_get C (pc := 161) 25 (by decide) rfl rfl 8 (by decide) rfl rfl hi_X8_falls_RX8 lk_X8_falls_22 dX8_falls_161 ?_
            refine go_iload2 C (pc := 164) dX8_falls_164 ?_
            refine go_iload4 C (pc := 165) dX8_falls_165 ?_
            refine go_iastN C (pc := 167) arr_30 (i := i) (by omega) dX8_falls_167 ?_
            refine go_iload1 C (pc := 168) dX8_falls_168 ?_
            refine go_iconst C (pc := 169) (v := 1) (by decide) dX8_falls_169 ?_
            refine go_iload4 C (pc := 170) dX8_falls_170 ?_
            refine go_ishl C (pc := 172) dX8_falls_172 ?_
            refine go_iconst C (pc := 173) (v := -1) (by decide) dX8_falls_173 ?_
            refine go_ixor C (pc := 174) dX8_falls_174 ?_
            refine go_iand C (pc := 175) dX8_falls_175 ?_
            refine go_istore1 C (pc := 176) dX8_falls_176 ?_
            refine go_iinc2 C (pc := 177) (v := 1) dX8_falls_177 (by decide) ?_
            refine go_goto C (pc := 180) (tgt := 7) dX8_falls_180 (by decide) ?_
            exact go_drop3 (go_drop4 (go_drop5 (go_lv (by rw [nI_1]; rfl) (go_mem (mset_mset μ 30 F _) (ih _ (fun z hz => by by_cases e : z = i <;> first | (subst e; exact pk_us) | (exact (pk_un e).trans (hF z (by omega)))))))))
          · exact absurd (show nI 0 - 1 < 0 by decide +kernel) h51
        | succ t iht =>
          intro ht x hI
          refine go_lv (lv' := [some (.ref (ad 25)), some (.int (lefS th pr n i)), some (.int (nI i)), some (.int (b2i (!decide (frI pr (lefS th pr n i) = 0)))), some (.int x), some (.int (nI t)), none, none]) (by rw [n1_s]) ?_
          refine go_iload5 C (pc := 49) dX8_falls_49 ?_
          refine go_if_lt C (pc := 51) (tgt := 160) dX8_falls_51 (by decide) (fun h51 => ?_) (fun h51 => ?_)
          · exact absurd h51 (nI_pos (by omega))
          · refine go_iload1 C (pc := 54) dX8_falls_54 ?_
            refine go_iload5 C (pc := 55) dX8_falls_55 ?_
            refine go_ciS2 C (pc := 57) (c_X8_has C.fl C.ok _ _ _ (by omega)) gX8_falls_X8_has rfl yok_X8_has ⟨rfl, rfl⟩ ⟨Nat.le_of_ble_eq_true rfl, Nat.le_of_ble_eq_true rfl⟩ (Nat.le_of_ble_eq_true rfl) ⟨Nat.zero_le _, Nat.zero_le _⟩ dX8_falls_57 (fun r4 μ4 hc4 => ?_)
            obtain ⟨rfl, hm4⟩ := hc4
            replace hm4 := hm4.symm
            subst hm4
            refine go_if_eq C (pc := 60) (tgt := 85) dX8_falls_60 (by decide) (fun h60 => ?_) (fun h60 => ?_)
            · refine go_iconst C (pc := 85) (v := 0) (by decide) dX8_falls_85 ?_
              refine go_istore6 C (pc := 86) dX8_falls_86 ?_
              refine go_iload4 C (pc := 88) dX8_falls_88 ?_
              refine go_if_lt C (pc := 90) (tgt := 128) dX8_falls_90 (by decide) (fun h90 => ?_) (fun h90 => ?_)
              · refine go_iconst C (pc := 128) (v := 1) (by decide) dX8_falls_128 ?_
                refine go_goto C (pc := 129) (tgt := 133) dX8_falls_129 (by decide) ?_
                refine go_istore7 C (pc := 133) dX8_falls_133 ?_
                refine go_iload6 C (pc := 135) dX8_falls_135 ?_
                refine go_if_eq C (pc := 137) (tgt := 150) dX8_falls_137 (by decide) (fun h137 => ?_) (fun h137 => ?_)
                · refine go_iload4 C (pc := 150) dX8_falls_150 ?_
                  refine go_istore4 C (pc := 152) dX8_falls_152 ?_
                  refine go_iinc5 C (pc := 154) (v := -1) dX8_falls_154 (by decide) ?_
                  refine go_goto C (pc := 157) (tgt := 49) dX8_falls_157 (by decide) ?_
                  have hlt : t < n := ht
                  exact go_drop6 (go_drop7 (go_lv (by rw [m1_s]) (iht (by omega) _ (fd_skip hI (wt_not1 (bpos h60))))))
                · refine go_iload7 C (pc := 140) dX8_falls_140 ?_
                  refine go_if_eq C (pc := 142) (tgt := 150) dX8_falls_142 (by decide) (fun h142 => ?_) (fun h142 => ?_)
                  · refine go_iload4 C (pc := 150) dX8_falls_150 ?_
                    refine go_istore4 C (pc := 152) dX8_falls_152 ?_
                    refine go_iinc5 C (pc := 154) (v := -1) dX8_falls_154 (by decide) ?_
                    refine go_goto C (pc := 157) (tgt := 49) dX8_falls_157 (by decide) ?_
                    exact absurd rfl (show ¬ (0 : Int32) = 0 from h137)
                  · refine go_iload5 C (pc := 145) dX8_falls_145 ?_
                    refine go_goto C (pc := 147) (tgt := 152) dX8_falls_147 (by decide) ?_
                    refine go_istore4 C (pc := 152) dX8_falls_152 ?_
                    refine go_iinc5 C (pc := 154) (v := -1) dX8_falls_154 (by decide) ?_
                    refine go_goto C (pc := 157) (tgt := 49) dX8_falls_157 (by decide) ?_
                    exact absurd rfl (show ¬ (0 : Int32) = 0 from h137)
              · refine go_iload3 C (pc := 93) dX8_falls_93 ?_
                refine go_if_eq C (pc := 94) (tgt := 128) dX8_falls_94 (by decide) (fun h94 => ?_) (fun h94 => ?_)
                · refine go_iconst C (pc := 128) (v := 1) (by decide) dX8_falls_128 ?_
                  refine go_goto C (pc := 129) (tgt := 133) dX8_falls_129 (by decide) ?_
                  refine go_istore7 C (pc := 133) dX8_falls_133 ?_
                  refine go_iload6 C (pc := 135) dX8_falls_135 ?_
                  refine go_if_eq C (pc := 137) (tgt := 150) dX8_falls_137 (by decide) (fun h137 => ?_) (fun h137 => ?_)
                  · refine go_iload4 C (pc := 150) dX8_falls_150 ?_
                    refine go_istore4 C (pc := 152) dX8_falls_152 ?_
                    refine go_iinc5 C (pc := 154) (v := -1) dX8_falls_154 (by decide) ?_
                    refine go_goto C (pc := 157) (tgt := 49) dX8_falls_157 (by decide) ?_
                    have hlt : t < n := ht
                    have hfr : frI pr (lefS th pr n i) = 0 := of_decide_eq_true (by have := bpos h94; simpa using this)
                    exact go_drop6 (go_drop7 (go_lv (by rw [m1_s]) (iht (by omega) _ (fd_skip hI (wt_not1 (bpos h60))))))
                  · refine go_iload7 C (pc := 140) dX8_falls_140 ?_
                    refine go_if_eq C (pc := 142) (tgt := 150) dX8_falls_142 (by decide) (fun h142 => ?_) (fun h142 => ?_)
                    · refine go_iload4 C (pc := 150) dX8_falls_150 ?_
                      refine go_istore4 C (pc := 152) dX8_falls_152 ?_
                      refine go_iinc5 C (pc := 154) (v := -1) dX8_falls_154 (by decide) ?_
                      refine go_goto C (pc := 157) (tgt := 49) dX8_falls_157 (by decide) ?_
                      exact absurd rfl (show ¬ (0 : Int32) = 0 from h137)
                    · refine go_iload5 C (pc := 145) dX8_falls_145 ?_
                      refine go_goto C (pc := 147) (tgt := 152) dX8_falls_147 (by decide) ?_
                      refine go_istore4 C (pc := 152) dX8_falls_152 ?_
                      refine go_iinc5 C (pc := 154) (v := -1) dX8_falls_154 (by decide) ?_
                      refine go_goto C (pc := 157) (tgt := 49) dX8_falls_157 (by decide) ?_
                      exact absurd rfl (show ¬ (0 : Int32) = 0 from h137)
                · obtain ⟨f, rfl, hf⟩ := fd_pos hI h90
                  refine go_aload0 C (pc := 97) dX8_falls_97 ?_
                  refine go_get C (pc := 98) 25 (by decide) rfl rfl 0 (by decide) rfl rfl hi_X8_falls_RX8 lk_X8_falls_7 dX8_falls_98 ?_
                  refine go_iconst C (pc := 101) (v := 2) (by decide) dX8_falls_101 ?_
                  refine go_iload5 C (pc := 102) dX8_falls_102 ?_
                  refine go_iadd C (pc := 104) dX8_falls_104 ?_
                  refine go_top (y := nI (2 + t)) (by rw [show (2 : Int32) = nI 2 from by decide +kernel, nI_add]) ?_
                  refine go_ialdN C (pc := 105) arr_26 (i := (2 + t)) (by omega) dX8_falls_105 ?_
                  refine go_top (y := th t) (hth _ (by omega)) ?_
                  refine go_iload1 C (pc := 106) dX8_falls_106 ?_
                  refine go_iand C (pc := 107) dX8_falls_107 ?_
                  refine go_ciS1 C (pc := 108) (c_X8_bits C.fl C.ok _ _ ) gX8_falls_X8_bits rfl yok_X8_bits ⟨rfl, rfl⟩ ⟨Nat.le_of_ble_eq_true rfl, Nat.le_of_ble_eq_true rfl⟩ (Nat.le_of_ble_eq_true rfl) ⟨Nat.zero_le _, Nat.zero_le _⟩ dX8_falls_108 (fun r12 μ12 hc12 => ?_)
                  obtain ⟨rfl, hm12⟩ := hc12
                  replace hm12 := hm12.symm
                  subst hm12
                  refine go_aload0 C (pc := 111) dX8_falls_111 ?_
                  refine go_get C (pc := 112) 25 (by decide) rfl rfl 0 (by decide) rfl rfl hi_X8_falls_RX8 lk_X8_falls_7 dX8_falls_112 ?_
                  refine go_iconst C (pc := 115) (v := 2) (by decide) dX8_falls_115 ?_
                  refine go_iload4 C (pc := 116) dX8_falls_116 ?_
                  refine go_iadd C (pc := 118) dX8_falls_118 ?_
                  refine go_top (y := nI (2 + f)) (by rw [show (2 : Int32) = nI 2 from by decide +kernel, nI_add]) ?_
                  refine go_ialdN C (pc := 119) arr_26 (i := (2 + f)) (by omega) dX8_falls_119 ?_
                  refine go_top (y := th f) (hth _ (by omega)) ?_
                  refine go_iload1 C (pc := 120) dX8_falls_120 ?_
                  refine go_iand C (pc := 121) dX8_falls_121 ?_
                  refine go_ciS1 C (pc := 122) (c_X8_bits C.fl C.ok _ _ ) gX8_falls_X8_bits rfl yok_X8_bits ⟨rfl, rfl⟩ ⟨Nat.le_of_ble_eq_true rfl, Nat.le_of_ble_eq_true rfl⟩ (Nat.le_of_ble_eq_true rfl) ⟨Nat.zero_le _, Nat.zero_le _⟩ dX8_falls_122 (fun r13 μ13 hc13 => ?_)
                  obtain ⟨rfl, hm13⟩ := hc13
                  replace hm13 := hm13.symm
                  subst hm13
                  refine go_icmp_gt C (pc := 125) (tgt := 132) dX8_falls_125 (by decide) (fun h125 => ?_) (fun h125 => ?_)
                  · refine go_iconst C (pc := 132) (v := 0) (by decide) dX8_falls_132 ?_
                    refine go_istore7 C (pc := 133) dX8_falls_133 ?_
                    refine go_iload6 C (pc := 135) dX8_falls_135 ?_
                    refine go_if_eq C (pc := 137) (tgt := 150) dX8_falls_137 (by decide) (fun h137 => ?_) (fun h137 => ?_)
                    · refine go_iload4 C (pc := 150) dX8_falls_150 ?_
                      refine go_istore4 C (pc := 152) dX8_falls_152 ?_
                      refine go_iinc5 C (pc := 154) (v := -1) dX8_falls_154 (by decide) ?_
                      refine go_goto C (pc := 157) (tgt := 49) dX8_falls_157 (by decide) ?_
                      have hlt : t < n := ht
                      have hfr : ¬ frI pr (lefS th pr n i) = 0 := of_decide_eq_false (by have := bneg h94; simpa using this)
                      exact go_drop6 (go_drop7 (go_lv (by rw [m1_s]) (iht (by omega) _ (fd_skip hI (wt_not1 (bpos h60))))))
                    · refine go_iload7 C (pc := 140) dX8_falls_140 ?_
                      refine go_if_eq C (pc := 142) (tgt := 150) dX8_falls_142 (by decide) (fun h142 => ?_) (fun h142 => ?_)
                      · refine go_iload4 C (pc := 150) dX8_falls_150 ?_
                        refine go_istore4 C (pc := 152) dX8_falls_152 ?_
                        refine go_iinc5 C (pc := 154) (v := -1) dX8_falls_154 (by decide) ?_
                        refine go_goto C (pc := 157) (tgt := 49) dX8_falls_157 (by decide) ?_
                        exact absurd rfl (show ¬ (0 : Int32) = 0 from h137)
                      · refine go_iload5 C (pc := 145) dX8_falls_145 ?_
                        refine go_goto C (pc := 147) (tgt := 152) dX8_falls_147 (by decide) ?_
                        refine go_istore4 C (pc := 152) dX8_falls_152 ?_
                        refine go_iinc5 C (pc := 154) (v := -1) dX8_falls_154 (by decide) ?_
                        refine go_goto C (pc := 157) (tgt := 49) dX8_falls_157 (by decide) ?_
                        exact absurd rfl (show ¬ (0 : Int32) = 0 from h137)
                  · refine go_iconst C (pc := 128) (v := 1) (by decide) dX8_falls_128 ?_
                    refine go_goto C (pc := 129) (tgt := 133) dX8_falls_129 (by decide) ?_
                    refine go_istore7 C (pc := 133) dX8_falls_133 ?_
                    refine go_iload6 C (pc := 135) dX8_falls_135 ?_
                    refine go_if_eq C (pc := 137) (tgt := 150) dX8_falls_137 (by decide) (fun h137 => ?_) (fun h137 => ?_)
                    · refine go_iload4 C (pc := 150) dX8_falls_150 ?_
                      refine go_istore4 C (pc := 152) dX8_falls_152 ?_
                      refine go_iinc5 C (pc := 154) (v := -1) dX8_falls_154 (by decide) ?_
                      refine go_goto C (pc := 157) (tgt := 49) dX8_falls_157 (by decide) ?_
                      have hlt : t < n := ht
                      have hfr : ¬ frI pr (lefS th pr n i) = 0 := of_decide_eq_false (by have := bneg h94; simpa using this)
                      exact go_drop6 (go_drop7 (go_lv (by rw [m1_s]) (iht (by omega) _ (fd_skip hI (wt_not1 (bpos h60))))))
                    · refine go_iload7 C (pc := 140) dX8_falls_140 ?_
                      refine go_if_eq C (pc := 142) (tgt := 150) dX8_falls_142 (by decide) (fun h142 => ?_) (fun h142 => ?_)
                      · refine go_iload4 C (pc := 150) dX8_falls_150 ?_
                        refine go_istore4 C (pc := 152) dX8_falls_152 ?_
                        refine go_iinc5 C (pc := 154) (v := -1) dX8_falls_154 (by decide) ?_
                        refine go_goto C (pc := 157) (tgt := 49) dX8_falls_157 (by decide) ?_
                        exact absurd rfl (show ¬ (0 : Int32) = 0 from h137)
                      · refine go_iload5 C (pc := 145) dX8_falls_145 ?_
                        refine go_goto C (pc := 147) (tgt := 152) dX8_falls_147 (by decide) ?_
                        refine go_istore4 C (pc := 152) dX8_falls_152 ?_
                        refine go_iinc5 C (pc := 154) (v := -1) dX8_falls_154 (by decide) ?_
                        refine go_goto C (pc := 157) (tgt := 49) dX8_falls_157 (by decide) ?_
                        exact absurd rfl (show ¬ (0 : Int32) = 0 from h137)
            · refine go_iload3 C (pc := 63) dX8_falls_63 ?_
              refine go_if_eq C (pc := 64) (tgt := 81) dX8_falls_64 (by decide) (fun h64 => ?_) (fun h64 => ?_)
              · refine go_iconst C (pc := 81) (v := 1) (by decide) dX8_falls_81 ?_
                refine go_goto C (pc := 82) (tgt := 86) dX8_falls_82 (by decide) ?_
                refine go_istore6 C (pc := 86) dX8_falls_86 ?_
                refine go_iload4 C (pc := 88) dX8_falls_88 ?_
                refine go_if_lt C (pc := 90) (tgt := 128) dX8_falls_90 (by decide) (fun h90 => ?_) (fun h90 => ?_)
                · refine go_iconst C (pc := 128) (v := 1) (by decide) dX8_falls_128 ?_
                  refine go_goto C (pc := 129) (tgt := 133) dX8_falls_129 (by decide) ?_
                  refine go_istore7 C (pc := 133) dX8_falls_133 ?_
                  refine go_iload6 C (pc := 135) dX8_falls_135 ?_
                  refine go_if_eq C (pc := 137) (tgt := 150) dX8_falls_137 (by decide) (fun h137 => ?_) (fun h137 => ?_)
                  · refine go_iload4 C (pc := 150) dX8_falls_150 ?_
                    refine go_istore4 C (pc := 152) dX8_falls_152 ?_
                    refine go_iinc5 C (pc := 154) (v := -1) dX8_falls_154 (by decide) ?_
                    refine go_goto C (pc := 157) (tgt := 49) dX8_falls_157 (by decide) ?_
                    exact absurd (show (1 : Int32) = 0 from h137) (by decide)
                  · refine go_iload7 C (pc := 140) dX8_falls_140 ?_
                    refine go_if_eq C (pc := 142) (tgt := 150) dX8_falls_142 (by decide) (fun h142 => ?_) (fun h142 => ?_)
                    · refine go_iload4 C (pc := 150) dX8_falls_150 ?_
                      refine go_istore4 C (pc := 152) dX8_falls_152 ?_
                      refine go_iinc5 C (pc := 154) (v := -1) dX8_falls_154 (by decide) ?_
                      refine go_goto C (pc := 157) (tgt := 49) dX8_falls_157 (by decide) ?_
                      exact absurd (show (1 : Int32) = 0 from h142) (by decide)
                    · refine go_iload5 C (pc := 145) dX8_falls_145 ?_
                      refine go_goto C (pc := 147) (tgt := 152) dX8_falls_147 (by decide) ?_
                      refine go_istore4 C (pc := 152) dX8_falls_152 ?_
                      refine go_iinc5 C (pc := 154) (v := -1) dX8_falls_154 (by decide) ?_
                      refine go_goto C (pc := 157) (tgt := 49) dX8_falls_157 (by decide) ?_
                      have hlt : t < n := ht
                      have hfr : frI pr (lefS th pr n i) = 0 := of_decide_eq_true (by have := bpos h64; simpa using this)
                      exact go_drop6 (go_drop7 (go_lv (by rw [m1_s]) (iht (by omega) _ (fd_take hI hlt hn (by rw [wt_nf hfr]; exact bneg h60) (Or.inl (fd_neg hI hn h90))))))
                · refine go_iload3 C (pc := 93) dX8_falls_93 ?_
                  refine go_if_eq C (pc := 94) (tgt := 128) dX8_falls_94 (by decide) (fun h94 => ?_) (fun h94 => ?_)
                  · refine go_iconst C (pc := 128) (v := 1) (by decide) dX8_falls_128 ?_
                    refine go_goto C (pc := 129) (tgt := 133) dX8_falls_129 (by decide) ?_
                    refine go_istore7 C (pc := 133) dX8_falls_133 ?_
                    refine go_iload6 C (pc := 135) dX8_falls_135 ?_
                    refine go_if_eq C (pc := 137) (tgt := 150) dX8_falls_137 (by decide) (fun h137 => ?_) (fun h137 => ?_)
                    · refine go_iload4 C (pc := 150) dX8_falls_150 ?_
                      refine go_istore4 C (pc := 152) dX8_falls_152 ?_
                      refine go_iinc5 C (pc := 154) (v := -1) dX8_falls_154 (by decide) ?_
                      refine go_goto C (pc := 157) (tgt := 49) dX8_falls_157 (by decide) ?_
                      exact absurd (show (1 : Int32) = 0 from h137) (by decide)
                    · refine go_iload7 C (pc := 140) dX8_falls_140 ?_
                      refine go_if_eq C (pc := 142) (tgt := 150) dX8_falls_142 (by decide) (fun h142 => ?_) (fun h142 => ?_)
                      · refine go_iload4 C (pc := 150) dX8_falls_150 ?_
                        refine go_istore4 C (pc := 152) dX8_falls_152 ?_
                        refine go_iinc5 C (pc := 154) (v := -1) dX8_falls_154 (by decide) ?_
                        refine go_goto C (pc := 157) (tgt := 49) dX8_falls_157 (by decide) ?_
                        exact absurd (show (1 : Int32) = 0 from h142) (by decide)
                      · refine go_iload5 C (pc := 145) dX8_falls_145 ?_
                        refine go_goto C (pc := 147) (tgt := 152) dX8_falls_147 (by decide) ?_
                        refine go_istore4 C (pc := 152) dX8_falls_152 ?_
                        refine go_iinc5 C (pc := 154) (v := -1) dX8_falls_154 (by decide) ?_
                        refine go_goto C (pc := 157) (tgt := 49) dX8_falls_157 (by decide) ?_
                        have hlt : t < n := ht
                        have hfr : frI pr (lefS th pr n i) = 0 := of_decide_eq_true (by have := bpos h64; simpa using this)
                        exact go_drop6 (go_drop7 (go_lv (by rw [m1_s]) (iht (by omega) _ (fd_take hI hlt hn (by rw [wt_nf hfr]; exact bneg h60) (Or.inr (fun f _ _ => by rw [nbN, if_pos hfr]; exact Nat.zero_le _))))))
                  · obtain ⟨f, rfl, hf⟩ := fd_pos hI h90
                    refine go_aload0 C (pc := 97) dX8_falls_97 ?_
                    refine go_get C (pc := 98) 25 (by decide) rfl rfl 0 (by decide) rfl rfl hi_X8_falls_RX8 lk_X8_falls_7 dX8_falls_98 ?_
                    refine go_iconst C (pc := 101) (v := 2) (by decide) dX8_falls_101 ?_
                    refine go_iload5 C (pc := 102) dX8_falls_102 ?_
                    refine go_iadd C (pc := 104) dX8_falls_104 ?_
                    refine go_top (y := nI (2 + t)) (by rw [show (2 : Int32) = nI 2 from by decide +kernel, nI_add]) ?_
                    refine go_ialdN C (pc := 105) arr_26 (i := (2 + t)) (by omega) dX8_falls_105 ?_
                    refine go_top (y := th t) (hth _ (by omega)) ?_
                    refine go_iload1 C (pc := 106) dX8_falls_106 ?_
                    refine go_iand C (pc := 107) dX8_falls_107 ?_
                    refine go_ciS1 C (pc := 108) (c_X8_bits C.fl C.ok _ _ ) gX8_falls_X8_bits rfl yok_X8_bits ⟨rfl, rfl⟩ ⟨Nat.le_of_ble_eq_true rfl, Nat.le_of_ble_eq_true rfl⟩ (Nat.le_of_ble_eq_true rfl) ⟨Nat.zero_le _, Nat.zero_le _⟩ dX8_falls_108 (fun r26 μ26 hc26 => ?_)
                    obtain ⟨rfl, hm26⟩ := hc26
                    replace hm26 := hm26.symm
                    subst hm26
                    refine go_aload0 C (pc := 111) dX8_falls_111 ?_
                    refine go_get C (pc := 112) 25 (by decide) rfl rfl 0 (by decide) rfl rfl hi_X8_falls_RX8 lk_X8_falls_7 dX8_falls_112 ?_
                    refine go_iconst C (pc := 115) (v := 2) (by decide) dX8_falls_115 ?_
                    refine go_iload4 C (pc := 116) dX8_falls_116 ?_
                    refine go_iadd C (pc := 118) dX8_falls_118 ?_
                    refine go_top (y := nI (2 + f)) (by rw [show (2 : Int32) = nI 2 from by decide +kernel, nI_add]) ?_
                    refine go_ialdN C (pc := 119) arr_26 (i := (2 + f)) (by omega) dX8_falls_119 ?_
                    refine go_top (y := th f) (hth _ (by omega)) ?_
                    refine go_iload1 C (pc := 120) dX8_falls_120 ?_
                    refine go_iand C (pc := 121) dX8_falls_121 ?_
                    refine go_ciS1 C (pc := 122) (c_X8_bits C.fl C.ok _ _ ) gX8_falls_X8_bits rfl yok_X8_bits ⟨rfl, rfl⟩ ⟨Nat.le_of_ble_eq_true rfl, Nat.le_of_ble_eq_true rfl⟩ (Nat.le_of_ble_eq_true rfl) ⟨Nat.zero_le _, Nat.zero_le _⟩ dX8_falls_122 (fun r27 μ27 hc27 => ?_)
                    obtain ⟨rfl, hm27⟩ := hc27
                    replace hm27 := hm27.symm
                    subst hm27
                    refine go_icmp_gt C (pc := 125) (tgt := 132) dX8_falls_125 (by decide) (fun h125 => ?_) (fun h125 => ?_)
                    · refine go_iconst C (pc := 132) (v := 0) (by decide) dX8_falls_132 ?_
                      refine go_istore7 C (pc := 133) dX8_falls_133 ?_
                      refine go_iload6 C (pc := 135) dX8_falls_135 ?_
                      refine go_if_eq C (pc := 137) (tgt := 150) dX8_falls_137 (by decide) (fun h137 => ?_) (fun h137 => ?_)
                      · refine go_iload4 C (pc := 150) dX8_falls_150 ?_
                        refine go_istore4 C (pc := 152) dX8_falls_152 ?_
                        refine go_iinc5 C (pc := 154) (v := -1) dX8_falls_154 (by decide) ?_
                        refine go_goto C (pc := 157) (tgt := 49) dX8_falls_157 (by decide) ?_
                        exact absurd (show (1 : Int32) = 0 from h137) (by decide)
                      · refine go_iload7 C (pc := 140) dX8_falls_140 ?_
                        refine go_if_eq C (pc := 142) (tgt := 150) dX8_falls_142 (by decide) (fun h142 => ?_) (fun h142 => ?_)
                        · refine go_iload4 C (pc := 150) dX8_falls_150 ?_
                          refine go_istore4 C (pc := 152) dX8_falls_152 ?_
                          refine go_iinc5 C (pc := 154) (v := -1) dX8_falls_154 (by decide) ?_
                          refine go_goto C (pc := 157) (tgt := 49) dX8_falls_157 (by decide) ?_
                          exact absurd h64 h94
                        · refine go_iload5 C (pc := 145) dX8_falls_145 ?_
                          refine go_goto C (pc := 147) (tgt := 152) dX8_falls_147 (by decide) ?_
                          refine go_istore4 C (pc := 152) dX8_falls_152 ?_
                          refine go_iinc5 C (pc := 154) (v := -1) dX8_falls_154 (by decide) ?_
                          refine go_goto C (pc := 157) (tgt := 49) dX8_falls_157 (by decide) ?_
                          exact absurd rfl (show ¬ (0 : Int32) = 0 from h142)
                    · refine go_iconst C (pc := 128) (v := 1) (by decide) dX8_falls_128 ?_
                      refine go_goto C (pc := 129) (tgt := 133) dX8_falls_129 (by decide) ?_
                      refine go_istore7 C (pc := 133) dX8_falls_133 ?_
                      refine go_iload6 C (pc := 135) dX8_falls_135 ?_
                      refine go_if_eq C (pc := 137) (tgt := 150) dX8_falls_137 (by decide) (fun h137 => ?_) (fun h137 => ?_)
                      · refine go_iload4 C (pc := 150) dX8_falls_150 ?_
                        refine go_istore4 C (pc := 152) dX8_falls_152 ?_
                        refine go_iinc5 C (pc := 154) (v := -1) dX8_falls_154 (by decide) ?_
                        refine go_goto C (pc := 157) (tgt := 49) dX8_falls_157 (by decide) ?_
                        exact absurd (show (1 : Int32) = 0 from h137) (by decide)
                      · refine go_iload7 C (pc := 140) dX8_falls_140 ?_
                        refine go_if_eq C (pc := 142) (tgt := 150) dX8_falls_142 (by decide) (fun h142 => ?_) (fun h142 => ?_)
                        · refine go_iload4 C (pc := 150) dX8_falls_150 ?_
                          refine go_istore4 C (pc := 152) dX8_falls_152 ?_
                          refine go_iinc5 C (pc := 154) (v := -1) dX8_falls_154 (by decide) ?_
                          refine go_goto C (pc := 157) (tgt := 49) dX8_falls_157 (by decide) ?_
                          exact absurd (show (1 : Int32) = 0 from h142) (by decide)
                        · refine go_iload5 C (pc := 145) dX8_falls_145 ?_
                          refine go_goto C (pc := 147) (tgt := 152) dX8_falls_147 (by decide) ?_
                          refine go_istore4 C (pc := 152) dX8_falls_152 ?_
                          refine go_iinc5 C (pc := 154) (v := -1) dX8_falls_154 (by decide) ?_
                          refine go_goto C (pc := 157) (tgt := 49) dX8_falls_157 (by decide) ?_
                          exact absurd h64 h94
              · refine go_aload0 C (pc := 67) dX8_falls_67 ?_
                refine go_get C (pc := 68) 25 (by decide) rfl rfl 0 (by decide) rfl rfl hi_X8_falls_RX8 lk_X8_falls_7 dX8_falls_68 ?_
                refine go_iconst C (pc := 71) (v := 1) (by decide) dX8_falls_71 ?_
                refine go_top (y := nI 1) (by first | rfl | decide +kernel) ?_
                refine go_ialdN C (pc := 72) arr_26 (i := 1) (by omega) dX8_falls_72 ?_
                refine go_top (y := pr) hs1 ?_
                refine go_iload5 C (pc := 73) dX8_falls_73 ?_
                refine go_ciS2 C (pc := 75) (c_X8_has C.fl C.ok _ _ _ (by omega)) gX8_falls_X8_has rfl yok_X8_has ⟨rfl, rfl⟩ ⟨Nat.le_of_ble_eq_true rfl, Nat.le_of_ble_eq_true rfl⟩ (Nat.le_of_ble_eq_true rfl) ⟨Nat.zero_le _, Nat.zero_le _⟩ dX8_falls_75 (fun r33 μ33 hc33 => ?_)
                obtain ⟨rfl, hm33⟩ := hc33
                replace hm33 := hm33.symm
                subst hm33
                refine go_if_ne C (pc := 78) (tgt := 85) dX8_falls_78 (by decide) (fun h78 => ?_) (fun h78 => ?_)
                · refine go_iconst C (pc := 85) (v := 0) (by decide) dX8_falls_85 ?_
                  refine go_istore6 C (pc := 86) dX8_falls_86 ?_
                  refine go_iload4 C (pc := 88) dX8_falls_88 ?_
                  refine go_if_lt C (pc := 90) (tgt := 128) dX8_falls_90 (by decide) (fun h90 => ?_) (fun h90 => ?_)
                  · refine go_iconst C (pc := 128) (v := 1) (by decide) dX8_falls_128 ?_
                    refine go_goto C (pc := 129) (tgt := 133) dX8_falls_129 (by decide) ?_
                    refine go_istore7 C (pc := 133) dX8_falls_133 ?_
                    refine go_iload6 C (pc := 135) dX8_falls_135 ?_
                    refine go_if_eq C (pc := 137) (tgt := 150) dX8_falls_137 (by decide) (fun h137 => ?_) (fun h137 => ?_)
                    · refine go_iload4 C (pc := 150) dX8_falls_150 ?_
                      refine go_istore4 C (pc := 152) dX8_falls_152 ?_
                      refine go_iinc5 C (pc := 154) (v := -1) dX8_falls_154 (by decide) ?_
                      refine go_goto C (pc := 157) (tgt := 49) dX8_falls_157 (by decide) ?_
                      have hlt : t < n := ht
                      have hfr : ¬ frI pr (lefS th pr n i) = 0 := of_decide_eq_false (by have := bneg h64; simpa using this)
                      exact go_drop6 (go_drop7 (go_lv (by rw [m1_s]) (iht (by omega) _ (fd_skip hI (by rw [wt_fr hfr (by omega), bneg h78, Bool.not_true, Bool.and_false])))))
                    · refine go_iload7 C (pc := 140) dX8_falls_140 ?_
                      refine go_if_eq C (pc := 142) (tgt := 150) dX8_falls_142 (by decide) (fun h142 => ?_) (fun h142 => ?_)
                      · refine go_iload4 C (pc := 150) dX8_falls_150 ?_
                        refine go_istore4 C (pc := 152) dX8_falls_152 ?_
                        refine go_iinc5 C (pc := 154) (v := -1) dX8_falls_154 (by decide) ?_
                        refine go_goto C (pc := 157) (tgt := 49) dX8_falls_157 (by decide) ?_
                        exact absurd rfl (show ¬ (0 : Int32) = 0 from h137)
                      · refine go_iload5 C (pc := 145) dX8_falls_145 ?_
                        refine go_goto C (pc := 147) (tgt := 152) dX8_falls_147 (by decide) ?_
                        refine go_istore4 C (pc := 152) dX8_falls_152 ?_
                        refine go_iinc5 C (pc := 154) (v := -1) dX8_falls_154 (by decide) ?_
                        refine go_goto C (pc := 157) (tgt := 49) dX8_falls_157 (by decide) ?_
                        exact absurd rfl (show ¬ (0 : Int32) = 0 from h137)
                  · refine go_iload3 C (pc := 93) dX8_falls_93 ?_
                    refine go_if_eq C (pc := 94) (tgt := 128) dX8_falls_94 (by decide) (fun h94 => ?_) (fun h94 => ?_)
                    · refine go_iconst C (pc := 128) (v := 1) (by decide) dX8_falls_128 ?_
                      refine go_goto C (pc := 129) (tgt := 133) dX8_falls_129 (by decide) ?_
                      refine go_istore7 C (pc := 133) dX8_falls_133 ?_
                      refine go_iload6 C (pc := 135) dX8_falls_135 ?_
                      refine go_if_eq C (pc := 137) (tgt := 150) dX8_falls_137 (by decide) (fun h137 => ?_) (fun h137 => ?_)
                      · refine go_iload4 C (pc := 150) dX8_falls_150 ?_
                        refine go_istore4 C (pc := 152) dX8_falls_152 ?_
                        refine go_iinc5 C (pc := 154) (v := -1) dX8_falls_154 (by decide) ?_
                        refine go_goto C (pc := 157) (tgt := 49) dX8_falls_157 (by decide) ?_
                        exact absurd h94 h64
                      · refine go_iload7 C (pc := 140) dX8_falls_140 ?_
                        refine go_if_eq C (pc := 142) (tgt := 150) dX8_falls_142 (by decide) (fun h142 => ?_) (fun h142 => ?_)
                        · refine go_iload4 C (pc := 150) dX8_falls_150 ?_
                          refine go_istore4 C (pc := 152) dX8_falls_152 ?_
                          refine go_iinc5 C (pc := 154) (v := -1) dX8_falls_154 (by decide) ?_
                          refine go_goto C (pc := 157) (tgt := 49) dX8_falls_157 (by decide) ?_
                          exact absurd rfl (show ¬ (0 : Int32) = 0 from h137)
                        · refine go_iload5 C (pc := 145) dX8_falls_145 ?_
                          refine go_goto C (pc := 147) (tgt := 152) dX8_falls_147 (by decide) ?_
                          refine go_istore4 C (pc := 152) dX8_falls_152 ?_
                          refine go_iinc5 C (pc := 154) (v := -1) dX8_falls_154 (by decide) ?_
                          refine go_goto C (pc := 157) (tgt := 49) dX8_falls_157 (by decide) ?_
                          exact absurd rfl (show ¬ (0 : Int32) = 0 from h137)
                    · obtain ⟨f, rfl, hf⟩ := fd_pos hI h90
                      refine go_aload0 C (pc := 97) dX8_falls_97 ?_
                      refine go_get C (pc := 98) 25 (by decide) rfl rfl 0 (by decide) rfl rfl hi_X8_falls_RX8 lk_X8_falls_7 dX8_falls_98 ?_
                      refine go_iconst C (pc := 101) (v := 2) (by decide) dX8_falls_101 ?_
                      refine go_iload5 C (pc := 102) dX8_falls_102 ?_
                      refine go_iadd C (pc := 104) dX8_falls_104 ?_
                      refine go_top (y := nI (2 + t)) (by rw [show (2 : Int32) = nI 2 from by decide +kernel, nI_add]) ?_
                      refine go_ialdN C (pc := 105) arr_26 (i := (2 + t)) (by omega) dX8_falls_105 ?_
                      refine go_top (y := th t) (hth _ (by omega)) ?_
                      refine go_iload1 C (pc := 106) dX8_falls_106 ?_
                      refine go_iand C (pc := 107) dX8_falls_107 ?_
                      refine go_ciS1 C (pc := 108) (c_X8_bits C.fl C.ok _ _ ) gX8_falls_X8_bits rfl yok_X8_bits ⟨rfl, rfl⟩ ⟨Nat.le_of_ble_eq_true rfl, Nat.le_of_ble_eq_true rfl⟩ (Nat.le_of_ble_eq_true rfl) ⟨Nat.zero_le _, Nat.zero_le _⟩ dX8_falls_108 (fun r41 μ41 hc41 => ?_)
                      obtain ⟨rfl, hm41⟩ := hc41
                      replace hm41 := hm41.symm
                      subst hm41
                      refine go_aload0 C (pc := 111) dX8_falls_111 ?_
                      refine go_get C (pc := 112) 25 (by decide) rfl rfl 0 (by decide) rfl rfl hi_X8_falls_RX8 lk_X8_falls_7 dX8_falls_112 ?_
                      refine go_iconst C (pc := 115) (v := 2) (by decide) dX8_falls_115 ?_
                      refine go_iload4 C (pc := 116) dX8_falls_116 ?_
                      refine go_iadd C (pc := 118) dX8_falls_118 ?_
                      refine go_top (y := nI (2 + f)) (by rw [show (2 : Int32) = nI 2 from by decide +kernel, nI_add]) ?_
                      refine go_ialdN C (pc := 119) arr_26 (i := (2 + f)) (by omega) dX8_falls_119 ?_
                      refine go_top (y := th f) (hth _ (by omega)) ?_
                      refine go_iload1 C (pc := 120) dX8_falls_120 ?_
                      refine go_iand C (pc := 121) dX8_falls_121 ?_
                      refine go_ciS1 C (pc := 122) (c_X8_bits C.fl C.ok _ _ ) gX8_falls_X8_bits rfl yok_X8_bits ⟨rfl, rfl⟩ ⟨Nat.le_of_ble_eq_true rfl, Nat.le_of_ble_eq_true rfl⟩ (Nat.le_of_ble_eq_true rfl) ⟨Nat.zero_le _, Nat.zero_le _⟩ dX8_falls_122 (fun r42 μ42 hc42 => ?_)
                      obtain ⟨rfl, hm42⟩ := hc42
                      replace hm42 := hm42.symm
                      subst hm42
                      refine go_icmp_gt C (pc := 125) (tgt := 132) dX8_falls_125 (by decide) (fun h125 => ?_) (fun h125 => ?_)
                      · refine go_iconst C (pc := 132) (v := 0) (by decide) dX8_falls_132 ?_
                        refine go_istore7 C (pc := 133) dX8_falls_133 ?_
                        refine go_iload6 C (pc := 135) dX8_falls_135 ?_
                        refine go_if_eq C (pc := 137) (tgt := 150) dX8_falls_137 (by decide) (fun h137 => ?_) (fun h137 => ?_)
                        · refine go_iload4 C (pc := 150) dX8_falls_150 ?_
                          refine go_istore4 C (pc := 152) dX8_falls_152 ?_
                          refine go_iinc5 C (pc := 154) (v := -1) dX8_falls_154 (by decide) ?_
                          refine go_goto C (pc := 157) (tgt := 49) dX8_falls_157 (by decide) ?_
                          have hlt : t < n := ht
                          have hfr : ¬ frI pr (lefS th pr n i) = 0 := of_decide_eq_false (by have := bneg h64; simpa using this)
                          exact go_drop6 (go_drop7 (go_lv (by rw [m1_s]) (iht (by omega) _ (fd_skip hI (by rw [wt_fr hfr (by omega), bneg h78, Bool.not_true, Bool.and_false])))))
                        · refine go_iload7 C (pc := 140) dX8_falls_140 ?_
                          refine go_if_eq C (pc := 142) (tgt := 150) dX8_falls_142 (by decide) (fun h142 => ?_) (fun h142 => ?_)
                          · refine go_iload4 C (pc := 150) dX8_falls_150 ?_
                            refine go_istore4 C (pc := 152) dX8_falls_152 ?_
                            refine go_iinc5 C (pc := 154) (v := -1) dX8_falls_154 (by decide) ?_
                            refine go_goto C (pc := 157) (tgt := 49) dX8_falls_157 (by decide) ?_
                            exact absurd rfl (show ¬ (0 : Int32) = 0 from h137)
                          · refine go_iload5 C (pc := 145) dX8_falls_145 ?_
                            refine go_goto C (pc := 147) (tgt := 152) dX8_falls_147 (by decide) ?_
                            refine go_istore4 C (pc := 152) dX8_falls_152 ?_
                            refine go_iinc5 C (pc := 154) (v := -1) dX8_falls_154 (by decide) ?_
                            refine go_goto C (pc := 157) (tgt := 49) dX8_falls_157 (by decide) ?_
                            exact absurd rfl (show ¬ (0 : Int32) = 0 from h137)
                      · refine go_iconst C (pc := 128) (v := 1) (by decide) dX8_falls_128 ?_
                        refine go_goto C (pc := 129) (tgt := 133) dX8_falls_129 (by decide) ?_
                        refine go_istore7 C (pc := 133) dX8_falls_133 ?_
                        refine go_iload6 C (pc := 135) dX8_falls_135 ?_
                        refine go_if_eq C (pc := 137) (tgt := 150) dX8_falls_137 (by decide) (fun h137 => ?_) (fun h137 => ?_)
                        · refine go_iload4 C (pc := 150) dX8_falls_150 ?_
                          refine go_istore4 C (pc := 152) dX8_falls_152 ?_
                          refine go_iinc5 C (pc := 154) (v := -1) dX8_falls_154 (by decide) ?_
                          refine go_goto C (pc := 157) (tgt := 49) dX8_falls_157 (by decide) ?_
                          have hlt : t < n := ht
                          have hfr : ¬ frI pr (lefS th pr n i) = 0 := of_decide_eq_false (by have := bneg h64; simpa using this)
                          exact go_drop6 (go_drop7 (go_lv (by rw [m1_s]) (iht (by omega) _ (fd_skip hI (by rw [wt_fr hfr (by omega), bneg h78, Bool.not_true, Bool.and_false])))))
                        · refine go_iload7 C (pc := 140) dX8_falls_140 ?_
                          refine go_if_eq C (pc := 142) (tgt := 150) dX8_falls_142 (by decide) (fun h142 => ?_) (fun h142 => ?_)
                          · refine go_iload4 C (pc := 150) dX8_falls_150 ?_
                            refine go_istore4 C (pc := 152) dX8_falls_152 ?_
                            refine go_iinc5 C (pc := 154) (v := -1) dX8_falls_154 (by decide) ?_
                            refine go_goto C (pc := 157) (tgt := 49) dX8_falls_157 (by decide) ?_
                            exact absurd rfl (show ¬ (0 : Int32) = 0 from h137)
                          · refine go_iload5 C (pc := 145) dX8_falls_145 ?_
                            refine go_goto C (pc := 147) (tgt := 152) dX8_falls_147 (by decide) ?_
                            refine go_istore4 C (pc := 152) dX8_falls_152 ?_
                            refine go_iinc5 C (pc := 154) (v := -1) dX8_falls_154 (by decide) ?_
                            refine go_goto C (pc := 157) (tgt := 49) dX8_falls_157 (by decide) ?_
                            exact absurd rfl (show ¬ (0 : Int32) = 0 from h137)
                · refine go_iconst C (pc := 81) (v := 1) (by decide) dX8_falls_81 ?_
                  refine go_goto C (pc := 82) (tgt := 86) dX8_falls_82 (by decide) ?_
                  refine go_istore6 C (pc := 86) dX8_falls_86 ?_
                  refine go_iload4 C (pc := 88) dX8_falls_88 ?_
                  refine go_if_lt C (pc := 90) (tgt := 128) dX8_falls_90 (by decide) (fun h90 => ?_) (fun h90 => ?_)
                  · refine go_iconst C (pc := 128) (v := 1) (by decide) dX8_falls_128 ?_
                    refine go_goto C (pc := 129) (tgt := 133) dX8_falls_129 (by decide) ?_
                    refine go_istore7 C (pc := 133) dX8_falls_133 ?_
                    refine go_iload6 C (pc := 135) dX8_falls_135 ?_
                    refine go_if_eq C (pc := 137) (tgt := 150) dX8_falls_137 (by decide) (fun h137 => ?_) (fun h137 => ?_)
                    · refine go_iload4 C (pc := 150) dX8_falls_150 ?_
                      refine go_istore4 C (pc := 152) dX8_falls_152 ?_
                      refine go_iinc5 C (pc := 154) (v := -1) dX8_falls_154 (by decide) ?_
                      refine go_goto C (pc := 157) (tgt := 49) dX8_falls_157 (by decide) ?_
                      exact absurd (show (1 : Int32) = 0 from h137) (by decide)
                    · refine go_iload7 C (pc := 140) dX8_falls_140 ?_
                      refine go_if_eq C (pc := 142) (tgt := 150) dX8_falls_142 (by decide) (fun h142 => ?_) (fun h142 => ?_)
                      · refine go_iload4 C (pc := 150) dX8_falls_150 ?_
                        refine go_istore4 C (pc := 152) dX8_falls_152 ?_
                        refine go_iinc5 C (pc := 154) (v := -1) dX8_falls_154 (by decide) ?_
                        refine go_goto C (pc := 157) (tgt := 49) dX8_falls_157 (by decide) ?_
                        exact absurd (show (1 : Int32) = 0 from h142) (by decide)
                      · refine go_iload5 C (pc := 145) dX8_falls_145 ?_
                        refine go_goto C (pc := 147) (tgt := 152) dX8_falls_147 (by decide) ?_
                        refine go_istore4 C (pc := 152) dX8_falls_152 ?_
                        refine go_iinc5 C (pc := 154) (v := -1) dX8_falls_154 (by decide) ?_
                        refine go_goto C (pc := 157) (tgt := 49) dX8_falls_157 (by decide) ?_
                        have hlt : t < n := ht
                        have hfr : ¬ frI pr (lefS th pr n i) = 0 := of_decide_eq_false (by have := bneg h64; simpa using this)
                        exact go_drop6 (go_drop7 (go_lv (by rw [m1_s]) (iht (by omega) _ (fd_take hI hlt hn (by rw [wt_fr hfr (by omega), bneg h60, bpos h78]; rfl) (Or.inl (fd_neg hI hn h90))))))
                  · refine go_iload3 C (pc := 93) dX8_falls_93 ?_
                    refine go_if_eq C (pc := 94) (tgt := 128) dX8_falls_94 (by decide) (fun h94 => ?_) (fun h94 => ?_)
                    · refine go_iconst C (pc := 128) (v := 1) (by decide) dX8_falls_128 ?_
                      refine go_goto C (pc := 129) (tgt := 133) dX8_falls_129 (by decide) ?_
                      refine go_istore7 C (pc := 133) dX8_falls_133 ?_
                      refine go_iload6 C (pc := 135) dX8_falls_135 ?_
                      refine go_if_eq C (pc := 137) (tgt := 150) dX8_falls_137 (by decide) (fun h137 => ?_) (fun h137 => ?_)
                      · refine go_iload4 C (pc := 150) dX8_falls_150 ?_
                        refine go_istore4 C (pc := 152) dX8_falls_152 ?_
                        refine go_iinc5 C (pc := 154) (v := -1) dX8_falls_154 (by decide) ?_
                        refine go_goto C (pc := 157) (tgt := 49) dX8_falls_157 (by decide) ?_
                        exact absurd (show (1 : Int32) = 0 from h137) (by decide)
                      · refine go_iload7 C (pc := 140) dX8_falls_140 ?_
                        refine go_if_eq C (pc := 142) (tgt := 150) dX8_falls_142 (by decide) (fun h142 => ?_) (fun h142 => ?_)
                        · refine go_iload4 C (pc := 150) dX8_falls_150 ?_
                          refine go_istore4 C (pc := 152) dX8_falls_152 ?_
                          refine go_iinc5 C (pc := 154) (v := -1) dX8_falls_154 (by decide) ?_
                          refine go_goto C (pc := 157) (tgt := 49) dX8_falls_157 (by decide) ?_
                          exact absurd (show (1 : Int32) = 0 from h142) (by decide)
                        · refine go_iload5 C (pc := 145) dX8_falls_145 ?_
                          refine go_goto C (pc := 147) (tgt := 152) dX8_falls_147 (by decide) ?_
                          refine go_istore4 C (pc := 152) dX8_falls_152 ?_
                          refine go_iinc5 C (pc := 154) (v := -1) dX8_falls_154 (by decide) ?_
                          refine go_goto C (pc := 157) (tgt := 49) dX8_falls_157 (by decide) ?_
                          exact absurd h94 h64
                    · obtain ⟨f, rfl, hf⟩ := fd_pos hI h90
                      refine go_aload0 C (pc := 97) dX8_falls_97 ?_
                      refine go_get C (pc := 98) 25 (by decide) rfl rfl 0 (by decide) rfl rfl hi_X8_falls_RX8 lk_X8_falls_7 dX8_falls_98 ?_
                      refine go_iconst C (pc := 101) (v := 2) (by decide) dX8_falls_101 ?_
                      refine go_iload5 C (pc := 102) dX8_falls_102 ?_
                      refine go_iadd C (pc := 104) dX8_falls_104 ?_
                      refine go_top (y := nI (2 + t)) (by rw [show (2 : Int32) = nI 2 from by decide +kernel, nI_add]) ?_
                      refine go_ialdN C (pc := 105) arr_26 (i := (2 + t)) (by omega) dX8_falls_105 ?_
                      refine go_top (y := th t) (hth _ (by omega)) ?_
                      refine go_iload1 C (pc := 106) dX8_falls_106 ?_
                      refine go_iand C (pc := 107) dX8_falls_107 ?_
                      refine go_ciS1 C (pc := 108) (c_X8_bits C.fl C.ok _ _ ) gX8_falls_X8_bits rfl yok_X8_bits ⟨rfl, rfl⟩ ⟨Nat.le_of_ble_eq_true rfl, Nat.le_of_ble_eq_true rfl⟩ (Nat.le_of_ble_eq_true rfl) ⟨Nat.zero_le _, Nat.zero_le _⟩ dX8_falls_108 (fun r54 μ54 hc54 => ?_)
                      obtain ⟨rfl, hm54⟩ := hc54
                      replace hm54 := hm54.symm
                      subst hm54
                      refine go_aload0 C (pc := 111) dX8_falls_111 ?_
                      refine go_get C (pc := 112) 25 (by decide) rfl rfl 0 (by decide) rfl rfl hi_X8_falls_RX8 lk_X8_falls_7 dX8_falls_112 ?_
                      refine go_iconst C (pc := 115) (v := 2) (by decide) dX8_falls_115 ?_
                      refine go_iload4 C (pc := 116) dX8_falls_116 ?_
                      refine go_iadd C (pc := 118) dX8_falls_118 ?_
                      refine go_top (y := nI (2 + f)) (by rw [show (2 : Int32) = nI 2 from by decide +kernel, nI_add]) ?_
                      refine go_ialdN C (pc := 119) arr_26 (i := (2 + f)) (by omega) dX8_falls_119 ?_
                      refine go_top (y := th f) (hth _ (by omega)) ?_
                      refine go_iload1 C (pc := 120) dX8_falls_120 ?_
                      refine go_iand C (pc := 121) dX8_falls_121 ?_
                      refine go_ciS1 C (pc := 122) (c_X8_bits C.fl C.ok _ _ ) gX8_falls_X8_bits rfl yok_X8_bits ⟨rfl, rfl⟩ ⟨Nat.le_of_ble_eq_true rfl, Nat.le_of_ble_eq_true rfl⟩ (Nat.le_of_ble_eq_true rfl) ⟨Nat.zero_le _, Nat.zero_le _⟩ dX8_falls_122 (fun r55 μ55 hc55 => ?_)
                      obtain ⟨rfl, hm55⟩ := hc55
                      replace hm55 := hm55.symm
                      subst hm55
                      refine go_icmp_gt C (pc := 125) (tgt := 132) dX8_falls_125 (by decide) (fun h125 => ?_) (fun h125 => ?_)
                      · refine go_iconst C (pc := 132) (v := 0) (by decide) dX8_falls_132 ?_
                        refine go_istore7 C (pc := 133) dX8_falls_133 ?_
                        refine go_iload6 C (pc := 135) dX8_falls_135 ?_
                        refine go_if_eq C (pc := 137) (tgt := 150) dX8_falls_137 (by decide) (fun h137 => ?_) (fun h137 => ?_)
                        · refine go_iload4 C (pc := 150) dX8_falls_150 ?_
                          refine go_istore4 C (pc := 152) dX8_falls_152 ?_
                          refine go_iinc5 C (pc := 154) (v := -1) dX8_falls_154 (by decide) ?_
                          refine go_goto C (pc := 157) (tgt := 49) dX8_falls_157 (by decide) ?_
                          exact absurd (show (1 : Int32) = 0 from h137) (by decide)
                        · refine go_iload7 C (pc := 140) dX8_falls_140 ?_
                          refine go_if_eq C (pc := 142) (tgt := 150) dX8_falls_142 (by decide) (fun h142 => ?_) (fun h142 => ?_)
                          · refine go_iload4 C (pc := 150) dX8_falls_150 ?_
                            refine go_istore4 C (pc := 152) dX8_falls_152 ?_
                            refine go_iinc5 C (pc := 154) (v := -1) dX8_falls_154 (by decide) ?_
                            refine go_goto C (pc := 157) (tgt := 49) dX8_falls_157 (by decide) ?_
                            have hlt : t < n := ht
                            have hfr : ¬ frI pr (lefS th pr n i) = 0 := of_decide_eq_false (by have := bneg h64; simpa using this)
                            have hc1 := ct_le (th f &&& lefS th pr n i)
                            have hc2 := ct_le (th t &&& lefS th pr n i)
                            exact go_drop6 (go_drop7 (go_lv (by rw [m1_s]) (iht (by omega) _ (fd_keep hI hf hn (by rw [nbN, if_neg hfr, nbN, if_neg hfr]; exact nlt (by omega) (by omega) h125)))))
                          · refine go_iload5 C (pc := 145) dX8_falls_145 ?_
                            refine go_goto C (pc := 147) (tgt := 152) dX8_falls_147 (by decide) ?_
                            refine go_istore4 C (pc := 152) dX8_falls_152 ?_
                            refine go_iinc5 C (pc := 154) (v := -1) dX8_falls_154 (by decide) ?_
                            refine go_goto C (pc := 157) (tgt := 49) dX8_falls_157 (by decide) ?_
                            exact absurd rfl (show ¬ (0 : Int32) = 0 from h142)
                      · refine go_iconst C (pc := 128) (v := 1) (by decide) dX8_falls_128 ?_
                        refine go_goto C (pc := 129) (tgt := 133) dX8_falls_129 (by decide) ?_
                        refine go_istore7 C (pc := 133) dX8_falls_133 ?_
                        refine go_iload6 C (pc := 135) dX8_falls_135 ?_
                        refine go_if_eq C (pc := 137) (tgt := 150) dX8_falls_137 (by decide) (fun h137 => ?_) (fun h137 => ?_)
                        · refine go_iload4 C (pc := 150) dX8_falls_150 ?_
                          refine go_istore4 C (pc := 152) dX8_falls_152 ?_
                          refine go_iinc5 C (pc := 154) (v := -1) dX8_falls_154 (by decide) ?_
                          refine go_goto C (pc := 157) (tgt := 49) dX8_falls_157 (by decide) ?_
                          exact absurd (show (1 : Int32) = 0 from h137) (by decide)
                        · refine go_iload7 C (pc := 140) dX8_falls_140 ?_
                          refine go_if_eq C (pc := 142) (tgt := 150) dX8_falls_142 (by decide) (fun h142 => ?_) (fun h142 => ?_)
                          · refine go_iload4 C (pc := 150) dX8_falls_150 ?_
                            refine go_istore4 C (pc := 152) dX8_falls_152 ?_
                            refine go_iinc5 C (pc := 154) (v := -1) dX8_falls_154 (by decide) ?_
                            refine go_goto C (pc := 157) (tgt := 49) dX8_falls_157 (by decide) ?_
                            exact absurd (show (1 : Int32) = 0 from h142) (by decide)
                          · refine go_iload5 C (pc := 145) dX8_falls_145 ?_
                            refine go_goto C (pc := 147) (tgt := 152) dX8_falls_147 (by decide) ?_
                            refine go_istore4 C (pc := 152) dX8_falls_152 ?_
                            refine go_iinc5 C (pc := 154) (v := -1) dX8_falls_154 (by decide) ?_
                            refine go_goto C (pc := 157) (tgt := 49) dX8_falls_157 (by decide) ?_
                            have hlt : t < n := ht
                            have hfr : ¬ frI pr (lefS th pr n i) = 0 := of_decide_eq_false (by have := bneg h64; simpa using this)
                            have hc1 := ct_le (th f &&& lefS th pr n i)
                            have hc2 := ct_le (th t &&& lefS th pr n i)
                            exact go_drop6 (go_drop7 (go_lv (by rw [m1_s]) (iht (by omega) _ (fd_take hI hlt hn (by rw [wt_fr hfr (by omega), bneg h60, bpos h78]; rfl) (Or.inr (fun f1 e1 h1 => by rw [nI_inj3 (a := f1) (b := f) (by omega) (by omega) e1.symm, nbN, if_neg hfr, nbN, if_neg hfr]; exact nle (by omega) (by omega) h125))))))
      refine go_iload2 C (pc := 7) dX8_falls_7 ?_
      refine go_aload0 C (pc := 8) dX8_falls_8 ?_
      refine go_get C (pc := 9) 25 (by decide) rfl rfl 0 (by decide) rfl rfl hi_X8_falls_RX8 lk_X8_falls_7 dX8_falls_9 ?_
      refine go_iconst C (pc := 12) (v := 0) (by decide) dX8_falls_12 ?_
      refine go_top (y := nI 0) (by first | rfl | decide +kernel) ?_
      refine go_ialdN C (pc := 13) arr_26 (i := 0) (by omega) dX8_falls_13 ?_
      refine go_top (y := nI n) hs0 ?_
      refine go_icmp_ge C (pc := 14) (tgt := 183) dX8_falls_14 (by decide) (fun h14 => ?_) (fun h14 => ?_)
      · exact absurd h14 (nI_ge hi (by omega))
      · refine go_iload1 C (pc := 17) dX8_falls_17 ?_
        refine go_aload0 C (pc := 18) dX8_falls_18 ?_
        refine go_get C (pc := 19) 25 (by decide) rfl rfl 0 (by decide) rfl rfl hi_X8_falls_RX8 lk_X8_falls_7 dX8_falls_19 ?_
        refine go_iconst C (pc := 22) (v := 1) (by decide) dX8_falls_22 ?_
        refine go_top (y := nI 1) (by first | rfl | decide +kernel) ?_
        refine go_ialdN C (pc := 23) arr_26 (i := 1) (by omega) dX8_falls_23 ?_
        refine go_top (y := pr) hs1 ?_
        refine go_iconst C (pc := 24) (v := -1) (by decide) dX8_falls_24 ?_
        refine go_ixor C (pc := 25) dX8_falls_25 ?_
        refine go_iand C (pc := 26) dX8_falls_26 ?_
        refine go_if_eq C (pc := 27) (tgt := 34) dX8_falls_27 (by decide) (fun h27 => ?_) (fun h27 => ?_)
        · refine go_iconst C (pc := 34) (v := 0) (by decide) dX8_falls_34 ?_
          refine go_istore3 C (pc := 35) dX8_falls_35 ?_
          refine go_iconst C (pc := 36) (v := -1) (by decide) dX8_falls_36 ?_
          refine go_istore4 C (pc := 37) dX8_falls_37 ?_
          refine go_aload0 C (pc := 39) dX8_falls_39 ?_
          refine go_get C (pc := 40) 25 (by decide) rfl rfl 0 (by decide) rfl rfl hi_X8_falls_RX8 lk_X8_falls_7 dX8_falls_40 ?_
          refine go_iconst C (pc := 43) (v := 0) (by decide) dX8_falls_43 ?_
          refine go_top (y := nI 0) (by first | rfl | decide +kernel) ?_
          refine go_ialdN C (pc := 44) arr_26 (i := 0) (by omega) dX8_falls_44 ?_
          refine go_top (y := nI n) hs0 ?_
          refine go_iconst C (pc := 45) (v := 1) (by decide) dX8_falls_45 ?_
          refine go_isub C (pc := 46) dX8_falls_46 ?_
          refine go_istore5 C (pc := 47) dX8_falls_47 ?_
          exact go_lv (by rw [decide_eq_true (show frI pr (lefS th pr n i) = 0 from h27)]; rfl) (key2 n (Nat.le_refl _) (-1) fd_0)
        · refine go_iconst C (pc := 30) (v := 1) (by decide) dX8_falls_30 ?_
          refine go_goto C (pc := 31) (tgt := 35) dX8_falls_31 (by decide) ?_
          refine go_istore3 C (pc := 35) dX8_falls_35 ?_
          refine go_iconst C (pc := 36) (v := -1) (by decide) dX8_falls_36 ?_
          refine go_istore4 C (pc := 37) dX8_falls_37 ?_
          refine go_aload0 C (pc := 39) dX8_falls_39 ?_
          refine go_get C (pc := 40) 25 (by decide) rfl rfl 0 (by decide) rfl rfl hi_X8_falls_RX8 lk_X8_falls_7 dX8_falls_40 ?_
          refine go_iconst C (pc := 43) (v := 0) (by decide) dX8_falls_43 ?_
          refine go_top (y := nI 0) (by first | rfl | decide +kernel) ?_
          refine go_ialdN C (pc := 44) arr_26 (i := 0) (by omega) dX8_falls_44 ?_
          refine go_top (y := nI n) hs0 ?_
          refine go_iconst C (pc := 45) (v := 1) (by decide) dX8_falls_45 ?_
          refine go_isub C (pc := 46) dX8_falls_46 ?_
          refine go_istore5 C (pc := 47) dX8_falls_47 ?_
          exact go_lv (by rw [decide_eq_false (show ¬ frI pr (lefS th pr n i) = 0 from h27)]; rfl) (key2 n (Nat.le_refl _) (-1) fd_0)
  refine go_aload0 C (pc := 0) dX8_falls_0 ?_
  refine go_ciV0 C (pc := 1) obj_25 (c_X8_all C.fl C.ok _ hM hT) gX8_falls_X8_all rfl rfl yok_X8_all ⟨rfl, rfl⟩ ⟨Nat.le_of_ble_eq_true rfl, Nat.le_of_ble_eq_true rfl⟩ (Nat.le_of_ble_eq_true rfl) ⟨Nat.zero_le _, Nat.zero_le _⟩ dX8_falls_1 (fun r63 μ63 hc63 => ?_)
  obtain ⟨rfl, hm63⟩ := hc63
  replace hm63 := hm63.symm
  subst hm63
  refine go_istore1 C (pc := 4) dX8_falls_4 ?_
  refine go_iconst C (pc := 5) (v := 0) (by decide) dX8_falls_5 ?_
  refine go_istore2 C (pc := 6) dX8_falls_6 ?_
  exact go_lv (by rw [nI_0]; rfl) (go_mem (mset_id μ 30).symm (key 0 (Nat.zero_le _) _ (fun x h => absurd h (Nat.not_lt_zero _))))

