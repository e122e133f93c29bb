/-! ===== the calls, one by one: class and reference answer alike ===== -/
section MM
variable {μ μ1 μ2 μ3 : Mem} {n q w : Nat} {h : Nat → Nat → Int32} {bs : Bool} {r5 r6 p0 p1 : Int32}
/-- a question about a plant -/
theorem q_1 {f : Int32 → Mem → Prop} {P : Int32 → Nat → Prop} {L : List Nat} (H : InvD μ n q h w bs) (hP : ∀ a b j, P a j → P b j → a = b) (hf : ∀ v μ1, f v μ1 → ∃ j, j < n ∧ p0 = nI j ∧ P v j ∧ same μ μ1 SC) (hc : HC μ μ2 r5 f (fun E => dem1 (μ 1 0) p0 = some E) cd1h)
    (hm : ((hasB (nI n) p0 = false ∧ μ3 25 7 = 1) ∨ ∃ j, j < n ∧ p0 = nI j ∧ P r6 j ∧ μ3 25 7 = 0) ∧ kp μ2 μ3 L) (hL : ∀ k ∈ L, k ∈ MC) : TailOK r5 r6 μ3 := by
  have hn := H.2.1.1
  rcases hc with ⟨h5, v, μ1, hv, hμ⟩ | ⟨E, hx, h5, hμ⟩
  · obtain ⟨j, hj, rfl, hPv, hs⟩ := hf v μ1 hv
    have hs2 : same μ μ2 SC := by rw [hμ]; exact hs.o33 (by decide)
    have h33 : μ3 33 0 = v := by rw [hm.2.2 33 (fun z => by have := hL 33 z; revert this; decide), hμ]; exact o33 _ _
    rcases hm.1 with ⟨a, -⟩ | ⟨j2, hj2, e, hPr, h0⟩
    · rw [hasB_j hn hj] at a; cases a
    · have ej : j = j2 := nI_inj3 (by omega) (by omega) e
      subst ej
      exact ⟨h0.trans h5.symm, fun _ => h33.trans (hP _ _ _ hPv hPr), inv_q H hs2 hm.2 hL⟩
  · obtain ⟨hb, rfl⟩ := dem1_E hx
    rw [H.1] at hb
    rcases hm.1 with ⟨-, a⟩ | ⟨j2, hj, e, -, -⟩
    · refine ⟨a.trans h5.symm, fun z => ?_, inv_q H (by rw [hμ]; exact same.rf) hm.2 hL⟩
      exact absurd (show (1 : Int32) = 0 from h5.symm.trans z) (by decide)
    · rw [e, hasB_j hn hj] at hb; cases hb
/-- a question with a number k -/
theorem q_K {f : Int32 → Mem → Prop} {P : Int32 → Nat → Prop} {L : List Nat} (H : InvD μ n q h w bs) (hP : ∀ a b k, P a k → P b k → a = b) (hf : ∀ v μ1, f v μ1 → ∃ k, k ≤ 15 ∧ p0 = nI k ∧ P v k ∧ same μ μ1 SC) (hc : HC μ μ2 r5 f (fun E => demK p0 = some E) cd1h)
    (hm : ((inR p0 0 15 = false ∧ μ3 25 7 = 1) ∨ ∃ k, k ≤ 15 ∧ p0 = nI k ∧ P r6 k ∧ μ3 25 7 = 0) ∧ kp μ2 μ3 L) (hL : ∀ k ∈ L, k ∈ MC) : TailOK r5 r6 μ3 := by
  rcases hc with ⟨h5, v, μ1, hv, hμ⟩ | ⟨E, hx, h5, hμ⟩
  · obtain ⟨k, hk, rfl, hPv, hs⟩ := hf v μ1 hv
    have hs2 : same μ μ2 SC := by rw [hμ]; exact hs.o33 (by decide)
    have h33 : μ3 33 0 = v := by rw [hm.2.2 33 (fun z => by have := hL 33 z; revert this; decide), hμ]; exact o33 _ _
    rcases hm.1 with ⟨a, -⟩ | ⟨k2, hk2, e, hPr, h0⟩
    · rw [inR_k hk] at a; cases a
    · have ej : k = k2 := nI_inj3 (by omega) (by omega) e
      subst ej
      exact ⟨h0.trans h5.symm, fun _ => h33.trans (hP _ _ _ hPv hPr), inv_q H hs2 hm.2 hL⟩
  · obtain ⟨hb, rfl⟩ := demK_E hx
    rcases hm.1 with ⟨-, a⟩ | ⟨k2, hk2, e, -, -⟩
    · refine ⟨a.trans h5.symm, fun z => ?_, inv_q H (by rw [hμ]; exact same.rf) hm.2 hL⟩
      exact absurd (show (1 : Int32) = 0 from h5.symm.trans z) (by decide)
    · rw [e, inR_k hk2] at hb; cases hb
/-- a question about a thorn -/
theorem q_T {f : Int32 → Mem → Prop} {P : Int32 → Nat → Nat → Prop} {L : List Nat} (H : InvD μ n q h w bs) (hP : ∀ a b i j, P a i j → P b i j → a = b) (hf : ∀ v μ1, f v μ1 → ∃ i j, i < n ∧ j < n ∧ bt (μ 3 i) j = true ∧ p0 = nI i ∧ p1 = nI j ∧ P v i j ∧ same μ μ1 SC) (hc : HC μ μ2 r5 f (fun E => demT (μ 1 0) (μ 3) p0 p1 = some E) (cd2h eIOB))
    (hm : ((¬ cdT (nI n) (μ 3) p0 p1 = 0 ∧ μ3 25 7 = cdT (nI n) (μ 3) p0 p1) ∨ ∃ i j, i < n ∧ j < n ∧ bt (μ 3 i) j = true ∧ p0 = nI i ∧ p1 = nI j ∧ P r6 i j ∧ μ3 25 7 = 0) ∧ kp μ2 μ3 L) (hL : ∀ k ∈ L, k ∈ MC) : TailOK r5 r6 μ3 := by
  have hn := H.2.1.1
  rcases hc with ⟨h5, v, μ1, hv, hμ⟩ | ⟨E, hx, h5, hμ⟩
  · obtain ⟨i, j, hi, hj, hb, rfl, rfl, hPv, hs⟩ := hf v μ1 hv
    have hs2 : same μ μ2 SC := by rw [hμ]; exact hs.o33 (by decide)
    have h33 : μ3 33 0 = v := by rw [hm.2.2 33 (fun z => by have := hL 33 z; revert this; decide), hμ]; exact o33 _ _
    rcases hm.1 with ⟨a, -⟩ | ⟨i2, j2, hi2, hj2, -, e1, e2, hPr, h0⟩
    · exact absurd (cdT_ok H.2.1 hi hj hb) a
    · have ei : i = i2 := nI_inj3 (by omega) (by omega) e1
      have ej : j = j2 := nI_inj3 (by omega) (by omega) e2
      subst ei; subst ej
      exact ⟨h0.trans h5.symm, fun _ => h33.trans (hP _ _ _ _ hPv hPr), inv_q H hs2 hm.2 hL⟩
  · obtain ⟨hE, hne, hcd⟩ := demT_E hx
    rw [H.1] at hne hcd
    rcases hm.1 with ⟨-, a⟩ | ⟨i2, j2, hi2, hj2, hb2, e1, e2, -, -⟩
    · refine ⟨a.trans (hcd.trans h5.symm), fun z => ?_, inv_q H (by rw [hμ]; exact same.rf) hm.2 hL⟩
      exact absurd (hcd.trans (h5.symm.trans z)) hne
    · rw [e1, e2] at hne; exact absurd (cdT_ok H.2.1 hi2 hj2 hb2) hne
theorem m_plant (H : InvD μ n q h w bs) (hc : HC μ μ2 r5 (fun (r : Int32) (μ' : Mem) => n < 16 ∧ r = nI n ∧ μ' 1 = upd (μ 1) 0 (nI (n + 1)) ∧ CH μ' (remM q) (remH q h (stV (μ 1 0) (μ 1 1) (μ 3))) ∧ same μ μ' [1, 7, 9]) (fun E : String => n = 16 ∧ E = eISE) cd1h)
    (hm : (n = 16 ∧ μ3 25 7 = 1 ∧ kp μ2 μ3 [25]) ∨ (n < 16 ∧ r6 = nI n ∧ Mo μ3 (n + 1) (μ 1 1) (μ 3) ∧ MH μ3 (remM q) (remH q h (stV (nI n) (μ 1 1) (μ 3))) ∧ μ3 25 7 = 0 ∧ (μ3 25 4 = μ2 25 4 ∧ μ3 25 6 = μ2 25 6) ∧ same μ2 μ3 [25, 26, 27])) : TailOK r5 r6 μ3 := by
  rcases hc with ⟨h5, v, μ1, ⟨hn, hv, g1, gC, gs⟩, hμ⟩ | ⟨E, hx, h5, hμ⟩
  · rcases hm with ⟨a, -⟩ | ⟨-, hr, mo, mh, h0, h4, hs⟩
    · omega
    · have e10 : μ1 1 0 = nI (n + 1) := by rw [g1, pk_us]
      have e11 : μ1 1 1 = μ 1 1 := by rw [g1, pk_un (by omega)]
      have e3 : μ1 3 = μ 3 := gs 3 (by decide)
      have hT : TV (n + 1) (μ 1 1) (μ 3) := by
        have := TV_grow (σ := (n, μ 1 1, μ 3)) H.2.1
        unfold growS at this
        rw [if_pos hn] at this
        exact this
      rw [← H.1] at mh
      refine ⟨h0.trans h5.symm, fun _ => ?_, inv_mod H e10 (by rw [e11, e3]; exact hT) gC (vS_rem H) (gs.mono (by decide)) hμ (by rw [e11, e3]; exact mo) mh h4 hs⟩
      rw [hs 33 (by decide), hμ, o33, hv, hr]
  · rcases hm with ⟨-, a, kk⟩ | ⟨a, -⟩
    · refine ⟨a.trans h5.symm, fun z => ?_, inv_q H (by rw [hμ]; exact same.rf) kk (by decide)⟩
      exact absurd (show (1 : Int32) = 0 from h5.symm.trans z) (by decide)
    · omega
theorem m_uproot (H : InvD μ n q h w bs) (hc : HC μ μ2 r5 (fun (r : Int32) (μ' : Mem) => ∃ j, j < n ∧ p0 = nI j ∧ r = nI (ct (μ 3 j)) ∧ μ' 3 = pullT (μ 3) j ∧ μ' 1 0 = nI n - 1 ∧ μ' 1 1 = closeG (μ 1 1) (nI j) ∧ CH μ' (remM q) (remH q h (stV (μ 1 0) (μ 1 1) (μ 3))) ∧ same μ μ' [1, 3, 7, 9]) (fun E : String => dem1 (μ 1 0) p0 = some E) cd1h)
    (hm : (hasB (nI n) p0 = false ∧ μ3 25 7 = 1 ∧ kp μ2 μ3 [25]) ∨ ∃ j1, j1 < n ∧ p0 = nI j1 ∧ r6 = nI (ct (μ 3 j1)) ∧ Mo μ3 (n - 1) (closeG (μ 1 1) (nI j1)) (pullT (μ 3) j1) ∧ MH μ3 (remM q) (remH q h (stV (nI n) (μ 1 1) (μ 3))) ∧ μ3 25 7 = 0 ∧ (μ3 25 4 = μ2 25 4 ∧ μ3 25 6 = μ2 25 6) ∧ same μ2 μ3 [25, 26, 27]) : TailOK r5 r6 μ3 := by
  have hn := H.2.1.1
  rcases hc with ⟨h5, v, μ1, ⟨j, hj, rfl, hv, g3, g10, g11, gC, gs⟩, hμ⟩ | ⟨E, hx, h5, hμ⟩
  · rcases hm with ⟨a, -⟩ | ⟨j1, hj1, e, hr, mo, mh, h0, h4, hs⟩
    · rw [hasB_j hn hj] at a; cases a
    · have ej : j = j1 := nI_inj3 (by omega) (by omega) e
      subst ej
      have e10 : μ1 1 0 = nI (n - 1) := by
        obtain ⟨z, rfl⟩ : ∃ z, n = z + 1 := ⟨n - 1, by omega⟩
        rw [g10, nI_pred]; rfl
      rw [← H.1] at mh
      refine ⟨h0.trans h5.symm, fun _ => ?_, inv_mod H e10 (by rw [g11, g3]; exact TV_pull H.2.1 hj) gC (vS_rem H) gs hμ (by rw [g11, g3]; exact mo) mh h4 hs⟩
      rw [hs 33 (by decide), hμ, o33, hv, hr]
  · obtain ⟨hb, rfl⟩ := dem1_E hx
    rw [H.1] at hb
    rcases hm with ⟨-, a, kk⟩ | ⟨j1, hj1, e, -⟩
    · refine ⟨a.trans h5.symm, fun z => ?_, inv_q H (by rw [hμ]; exact same.rf) kk (by decide)⟩
      exact absurd (show (1 : Int32) = 0 from h5.symm.trans z) (by decide)
    · rw [e, hasB_j hn hj1] at hb; cases hb
theorem m_bind (H : InvD μ n q h w bs) (hc : HC μ μ2 r5 (fun (r : Int32) (μ' : Mem) => ∃ i j, i < n ∧ j < n ∧ i ≠ j ∧ bt (μ 3 i) j = false ∧ p0 = nI i ∧ p1 = nI j ∧ r = nI (ct (tieE (μ 3) i j i)) ∧ CSm μ' (n, μ 1 1, tieE (μ 3) i j) ∧ CH μ' (remM q) (remH q h (stV (μ 1 0) (μ 1 1) (μ 3))) ∧ same μ μ' [1, 3, 7, 9]) (fun E : String => dem2 (μ 1 0) p0 p1 = some E ∨ (∃ i j, i < n ∧ j < n ∧ i ≠ j ∧ p0 = nI i ∧ p1 = nI j ∧ bt (μ 3 i) j = true ∧ E = eISE)) (cd3h eIOB eIAE))
    (hm : (¬ cd2 (nI n) p0 p1 = 0 ∧ μ3 25 7 = cd2 (nI n) p0 p1 ∧ kp μ2 μ3 [25]) ∨ (∃ i j, i < n ∧ j < n ∧ i ≠ j ∧ bt (μ 3 i) j = true ∧ p0 = nI i ∧ p1 = nI j ∧ μ3 25 7 = 3 ∧ kp μ2 μ3 [25]) ∨ ∃ i j, i < n ∧ j < n ∧ i ≠ j ∧ bt (μ 3 i) j = false ∧ p0 = nI i ∧ p1 = nI j ∧ r6 = nI (ct (tieE (μ 3) i j i)) ∧ Mo μ3 n (μ 1 1) (tieE (μ 3) i j) ∧ MH μ3 (remM q) (remH q h (stV (nI n) (μ 1 1) (μ 3))) ∧ μ3 25 7 = 0 ∧ (μ3 25 4 = μ2 25 4 ∧ μ3 25 6 = μ2 25 6) ∧ same μ2 μ3 [25, 26, 27]) : TailOK r5 r6 μ3 := by
  have hn := H.2.1.1
  rcases hc with ⟨h5, v, μ1, ⟨i, j, hi, hj, hij, hb, rfl, rfl, hv, ⟨g10, g11, g3⟩, gC, gs⟩, hμ⟩ | ⟨E, hx, h5, hμ⟩
  · rcases hm with ⟨a, -⟩ | ⟨i2, j2, hi2, hj2, -, hb2, e1, e2, -⟩ | ⟨i2, j2, hi2, hj2, -, -, e1, e2, hr, mo, mh, h0, h4, hs⟩
    · exact absurd (cd2_ok hn hi hj hij) a
    · have ei : i = i2 := nI_inj3 (by omega) (by omega) e1
      have ej : j = j2 := nI_inj3 (by omega) (by omega) e2
      subst ei; subst ej
      rw [hb] at hb2; cases hb2
    · have ei : i = i2 := nI_inj3 (by omega) (by omega) e1
      have ej : j = j2 := nI_inj3 (by omega) (by omega) e2
      subst ei; subst ej
      have hT : TV n (μ 1 1) (tieE (μ 3) i j) := by
        have := TV_tie (σ := (n, μ 1 1, μ 3)) (i := i) (j := j) H.2.1
        unfold tieS at this
        rw [if_pos ⟨hi, hj, hij, hb⟩] at this
        exact this
      rw [← H.1] at mh
      replace g11 : μ1 1 1 = μ 1 1 := g11
      replace g3 : μ1 3 = tieE (μ 3) i j := g3
      refine ⟨h0.trans h5.symm, fun _ => ?_, inv_mod H g10 (by rw [g11, g3]; exact hT) gC (vS_rem H) gs hμ (by rw [g11, g3]; exact mo) mh h4 hs⟩
      rw [hs 33 (by decide), hμ, o33, hv, hr]
  · rcases hx with hx | ⟨i, j, hi, hj, hij, rfl, rfl, hb, rfl⟩
    · obtain ⟨hE, hne, hcd⟩ := dem2_E hx
      rw [H.1] at hne hcd
      rcases hm with ⟨-, a, kk⟩ | ⟨i2, j2, hi2, hj2, hij2, -, e1, e2, -⟩ | ⟨i2, j2, hi2, hj2, hij2, -, e1, e2, -⟩
      · refine ⟨a.trans (hcd.trans h5.symm), fun z => ?_, inv_q H (by rw [hμ]; exact same.rf) kk (by decide)⟩
        exact absurd (hcd.trans (h5.symm.trans z)) hne
      · rw [e1, e2] at hne; exact absurd (cd2_ok hn hi2 hj2 hij2) hne
      · rw [e1, e2] at hne; exact absurd (cd2_ok hn hi2 hj2 hij2) hne
    · have h5' : r5 = 3 := h5.trans (by decide +kernel)
      rcases hm with ⟨a, -⟩ | ⟨i2, j2, hi2, hj2, -, hb2, e1, e2, a, kk⟩ | ⟨i2, j2, hi2, hj2, -, hb2, e1, e2, -⟩
      · exact absurd (cd2_ok hn hi hj hij) a
      · refine ⟨a.trans h5'.symm, fun z => ?_, inv_q H (by rw [hμ]; exact same.rf) kk (by decide)⟩
        rw [h5'] at z; exact absurd z (by decide)
      · have ei : i = i2 := nI_inj3 (by omega) (by omega) e1
        have ej : j = j2 := nI_inj3 (by omega) (by omega) e2
        subst ei; subst ej
        rw [hb] at hb2; cases hb2
theorem m_cut (H : InvD μ n q h w bs) (hc : HC μ μ2 r5 (fun (r : Int32) (μ' : Mem) => ∃ i j, i < n ∧ j < n ∧ i ≠ j ∧ bt (μ 3 i) j = true ∧ p0 = nI i ∧ p1 = nI j ∧ r = nI (ct (untE (μ 3) i j i)) ∧ CSm μ' (n, μ 1 1, untE (μ 3) i j) ∧ CH μ' (remM q) (remH q h (stV (μ 1 0) (μ 1 1) (μ 3))) ∧ same μ μ' [1, 3, 7, 9]) (fun E : String => dem2 (μ 1 0) p0 p1 = some E ∨ (∃ i j, i < n ∧ j < n ∧ i ≠ j ∧ p0 = nI i ∧ p1 = nI j ∧ bt (μ 3 i) j = false ∧ E = eISE)) (cd3h eIOB eIAE))
    (hm : (¬ cd2 (nI n) p0 p1 = 0 ∧ μ3 25 7 = cd2 (nI n) p0 p1 ∧ kp μ2 μ3 [25]) ∨ (∃ i j, i < n ∧ j < n ∧ i ≠ j ∧ bt (μ 3 i) j = false ∧ p0 = nI i ∧ p1 = nI j ∧ μ3 25 7 = 3 ∧ kp μ2 μ3 [25]) ∨ ∃ i j, i < n ∧ j < n ∧ i ≠ j ∧ bt (μ 3 i) j = true ∧ p0 = nI i ∧ p1 = nI j ∧ r6 = nI (ct (untE (μ 3) i j i)) ∧ Mo μ3 n (μ 1 1) (untE (μ 3) i j) ∧ MH μ3 (remM q) (remH q h (stV (nI n) (μ 1 1) (μ 3))) ∧ μ3 25 7 = 0 ∧ (μ3 25 4 = μ2 25 4 ∧ μ3 25 6 = μ2 25 6) ∧ same μ2 μ3 [25, 26, 27]) : TailOK r5 r6 μ3 := by
  have hn := H.2.1.1
  rcases hc with ⟨h5, v, μ1, ⟨i, j, hi, hj, hij, hb, rfl, rfl, hv, ⟨g10, g11, g3⟩, gC, gs⟩, hμ⟩ | ⟨E, hx, h5, hμ⟩
  · rcases hm with ⟨a, -⟩ | ⟨i2, j2, hi2, hj2, -, hb2, e1, e2, -⟩ | ⟨i2, j2, hi2, hj2, -, -, e1, e2, hr, mo, mh, h0, h4, hs⟩
    · exact absurd (cd2_ok hn hi hj hij) a
    · have ei : i = i2 := nI_inj3 (by omega) (by omega) e1
      have ej : j = j2 := nI_inj3 (by omega) (by omega) e2
      subst ei; subst ej
      rw [hb] at hb2; cases hb2
    · have ei : i = i2 := nI_inj3 (by omega) (by omega) e1
      have ej : j = j2 := nI_inj3 (by omega) (by omega) e2
      subst ei; subst ej
      have hT : TV n (μ 1 1) (untE (μ 3) i j) := by
        have := TV_unt (σ := (n, μ 1 1, μ 3)) (i := i) (j := j) (by omega) H.2.1
        unfold untS at this
        rw [if_pos (show bt ((n, μ 1 1, μ 3).2.2 i) j = true from hb)] at this
        exact this
      rw [← H.1] at mh
      replace g11 : μ1 1 1 = μ 1 1 := g11
      replace g3 : μ1 3 = untE (μ 3) i j := g3
      refine ⟨h0.trans h5.symm, fun _ => ?_, inv_mod H g10 (by rw [g11, g3]; exact hT) gC (vS_rem H) gs hμ (by rw [g11, g3]; exact mo) mh h4 hs⟩
      rw [hs 33 (by decide), hμ, o33, hv, hr]
  · rcases hx with hx | ⟨i, j, hi, hj, hij, rfl, rfl, hb, rfl⟩
    · obtain ⟨hE, hne, hcd⟩ := dem2_E hx
      rw [H.1] at hne hcd
      rcases hm with ⟨-, a, kk⟩ | ⟨i2, j2, hi2, hj2, hij2, -, e1, e2, -⟩ | ⟨i2, j2, hi2, hj2, hij2, -, e1, e2, -⟩
      · refine ⟨a.trans (hcd.trans h5.symm), fun z => ?_, inv_q H (by rw [hμ]; exact same.rf) kk (by decide)⟩
        exact absurd (hcd.trans (h5.symm.trans z)) hne
      · rw [e1, e2] at hne; exact absurd (cd2_ok hn hi2 hj2 hij2) hne
      · rw [e1, e2] at hne; exact absurd (cd2_ok hn hi2 hj2 hij2) hne
    · have h5' : r5 = 3 := h5.trans (by decide +kernel)
      rcases hm with ⟨a, -⟩ | ⟨i2, j2, hi2, hj2, -, hb2, e1, e2, a, kk⟩ | ⟨i2, j2, hi2, hj2, -, hb2, e1, e2, -⟩
      · exact absurd (cd2_ok hn hi hj hij) a
      · refine ⟨a.trans h5'.symm, fun z => ?_, inv_q H (by rw [hμ]; exact same.rf) kk (by decide)⟩
        rw [h5'] at z; exact absurd z (by decide)
      · have ei : i = i2 := nI_inj3 (by omega) (by omega) e1
        have ej : j = j2 := nI_inj3 (by omega) (by omega) e2
        subst ei; subst ej
        rw [hb] at hb2; cases hb2
theorem m_switchProp (H : InvD μ n q h w bs) (hc : HC μ μ2 r5 (fun (r : Int32) (μ' : Mem) => ∃ j, j < n ∧ p0 = nI j ∧ r = b2i (bt (μ 1 1 ^^^ bitI (nI j)) j) ∧ CSm μ' (n, μ 1 1 ^^^ bitI (nI j), μ 3) ∧ CH μ' (remM q) (remH q h (stV (μ 1 0) (μ 1 1) (μ 3))) ∧ same μ μ' [1, 3, 7, 9]) (fun E : String => dem1 (μ 1 0) p0 = some E) cd1h)
    (hm : (hasB (nI n) p0 = false ∧ μ3 25 7 = 1 ∧ kp μ2 μ3 [25]) ∨ ∃ j, j < n ∧ p0 = nI j ∧ r6 = b2i (bt (μ 1 1 ^^^ bitI (nI j)) j) ∧ Mo μ3 n (μ 1 1 ^^^ bitI (nI j)) (μ 3) ∧ MH μ3 (remM q) (remH q h (stV (nI n) (μ 1 1) (μ 3))) ∧ μ3 25 7 = 0 ∧ (μ3 25 4 = μ2 25 4 ∧ μ3 25 6 = μ2 25 6) ∧ same μ2 μ3 [25, 26, 27]) : TailOK r5 r6 μ3 ∧ (r5 = 0 → r6 = 0 ∨ r6 = 1) := by
  have hn := H.2.1.1
  rcases hc with ⟨h5, v, μ1, ⟨j, hj, rfl, hv, ⟨g10, g11, g3⟩, gC, gs⟩, hμ⟩ | ⟨E, hx, h5, hμ⟩
  · rcases hm with ⟨a, -⟩ | ⟨j1, hj1, e, hr, mo, mh, h0, h4, hs⟩
    · rw [hasB_j hn hj] at a; cases a
    · have ej : j = j1 := nI_inj3 (by omega) (by omega) e
      subst ej
      have hT : TV n (μ 1 1 ^^^ bitI (nI j)) (μ 3) := by
        have := TV_turn (σ := (n, μ 1 1, μ 3)) (j := j) H.2.1
        unfold turnS at this
        rw [if_pos hj] at this
        exact this
      rw [← H.1] at mh
      replace g11 : μ1 1 1 = μ 1 1 ^^^ bitI (nI j) := g11
      replace g3 : μ1 3 = μ 3 := g3
      refine ⟨⟨h0.trans h5.symm, fun _ => ?_, inv_mod H g10 (by rw [g11, g3]; exact hT) gC (vS_rem H) gs hμ (by rw [g11, g3]; exact mo) mh h4 hs⟩, fun _ => by rw [hr]; exact b2i_01 _⟩
      rw [hs 33 (by decide), hμ, o33, hv, hr]
  · obtain ⟨hb, rfl⟩ := dem1_E hx
    rw [H.1] at hb
    rcases hm with ⟨-, a, kk⟩ | ⟨j1, hj1, e, -⟩
    · refine ⟨⟨a.trans h5.symm, fun z => ?_, inv_q H (by rw [hμ]; exact same.rf) kk (by decide)⟩, fun z => ?_⟩
      · exact absurd (show (1 : Int32) = 0 from h5.symm.trans z) (by decide)
      · exact absurd (show (1 : Int32) = 0 from h5.symm.trans z) (by decide)
    · rw [e, hasB_j hn hj1] at hb; cases hb
theorem m_change (H : InvD μ n q h w bs) (h29 : μ2 29 = μ 6) (hc : HC μ μ2 r5 (fun (r : Int32) (μ' : Mem) => dfa (μ 6) w = 4 ∧ r = nI (runC (μ 6) w (w + 1) 0 (0, (n, μ 1 1, μ 3))).1 ∧ CSm μ' (runC (μ 6) w (w + 1) 0 (0, (n, μ 1 1, μ 3))).2 ∧ CH μ' (remM q) (remH q h (stV (μ 1 0) (μ 1 1) (μ 3))) ∧ same μ μ' [1, 3, 7, 9]) (fun E : String => dfa (μ 6) w ≠ 4 ∧ E = eIAE) cd1h)
    (hm : (dfa (μ2 29) w ≠ 4 ∧ μ3 25 7 = 1 ∧ kp μ2 μ3 [25]) ∨ (dfa (μ2 29) w = 4 ∧ r6 = nI (runC (μ2 29) w (w + 1) 0 (0, (n, μ 1 1, μ 3))).1 ∧ MoS μ3 (runC (μ2 29) w (w + 1) 0 (0, (n, μ 1 1, μ 3))).2 ∧ MH μ3 (remM q) (remH q h (stV (nI n) (μ 1 1) (μ 3))) ∧ μ3 25 7 = 0 ∧ (μ3 25 4 = μ2 25 4 ∧ μ3 25 6 = μ2 25 6) ∧ same μ2 μ3 [25, 26, 27])) : TailOK r5 r6 μ3 := by
  rw [h29] at hm
  rcases hc with ⟨h5, v, μ1, ⟨hd, hv, ⟨g10, g11, g3⟩, gC, gs⟩, hμ⟩ | ⟨E, ⟨hd, -⟩, h5, hμ⟩
  · rcases hm with ⟨a, -⟩ | ⟨-, hr, mo, mh, h0, h4, hs⟩
    · exact absurd hd a
    · have hT : TVs (runC (μ 6) w (w + 1) 0 (0, (n, μ 1 1, μ 3))).2 := TV_run H.wl hd _ 0 (0, (n, μ 1 1, μ 3)) (fun _ => rfl) H.2.1
      rw [← H.1] at mh
      refine ⟨h0.trans h5.symm, fun _ => ?_, inv_mod H g10 (by rw [g11, g3]; exact hT) gC (vS_rem H) gs hμ (by rw [g11, g3]; exact mo) mh h4 hs⟩
      rw [hs 33 (by decide), hμ, o33, hv, hr]
  · rcases hm with ⟨-, a, kk⟩ | ⟨a, -⟩
    · refine ⟨a.trans h5.symm, fun z => ?_, inv_q H (by rw [hμ]; exact same.rf) kk (by decide)⟩
      exact absurd (show (1 : Int32) = 0 from h5.symm.trans z) (by decide)
    · exact absurd a hd
theorem m_append (H : InvD μ n q h w bs) (hc : HC μ μ2 r5 (fun (r : Int32) (μ' : Mem) => w < 60 ∧ r = nI (w + 1) ∧ μ' = mset (mset μ 6 (upd (μ 6) w p0)) 4 (upd (μ 4) 1 (nI (w + 1)))) (fun E : String => w = 60 ∧ E = eISE) cd1h)
    (hm : (w = 60 ∧ μ3 25 7 = 1 ∧ kp μ2 μ3 [25]) ∨ (w < 60 ∧ r6 = nI (w + 1) ∧ μ3 25 7 = 0 ∧ μ3 25 6 = nI (w + 1) ∧ μ3 29 = upd (μ2 29) w p0 ∧ (μ3 25 2 = μ2 25 2 ∧ μ3 25 4 = μ2 25 4) ∧ same μ2 μ3 [25, 29])) : TailOK r5 r6 μ3 := by
  rcases hc with ⟨h5, v, μ1, ⟨hw, hv, rfl⟩, hμ⟩ | ⟨E, ⟨hw, -⟩, h5, hμ⟩
  · rcases hm with ⟨a, -⟩ | ⟨-, hr, h0, h6, h29, h4, hs⟩
    · omega
    · have g : ∀ k, k ∉ [4, 6, 25, 29, 33] → μ3 k = μ k := fun k hk => by
        rw [hs k (fun z => hk (by simp only [List.mem_cons, List.not_mem_nil, or_false] at z ⊢; omega)), hμ, mset_ne _ _ (fun z => hk (by rw [z]; decide)), mset_ne _ _ (fun z => hk (by rw [z]; decide)), mset_ne _ _ (fun z => hk (by rw [z]; decide))]
      have e25 : μ2 25 = μ 25 := by rw [hμ, mset_ne _ _ (by decide), mset_ne _ _ (by decide), mset_ne _ _ (by decide)]
      have e29 : μ2 29 = μ 29 := by rw [hμ, mset_ne _ _ (by decide), mset_ne _ _ (by decide), mset_ne _ _ (by decide)]
      have e6 : μ3 6 = upd (μ 6) w p0 := by rw [hs 6 (by decide), hμ, mset_ne _ _ (by decide), mset_ne _ _ (by decide), mset_same]
      have e4 : μ3 4 1 = nI (w + 1) := by rw [hs 4 (by decide), hμ, mset_ne _ _ (by decide), mset_same, pk_us]
      rw [e25] at h4
      refine ⟨h0.trans h5.symm, fun _ => ?_, n, q, h, w + 1, bs, ?_⟩
      · rw [hs 33 (by decide), hμ, o33, hv, hr]
      · obtain ⟨c1, c2, c3, c4, c5, c6, c7, c8, c9, c10, c11, c12, c13⟩ := H
        refine ⟨by rw [g 1 (by decide)]; exact c1, by rw [g 1 (by decide), g 3 (by decide)]; exact c2, ?_, ?_, ?_, c6, e4, h6, by omega, by rw [h29, e29, e6, c10], by rw [g 0 (by decide)]; exact c11, by rw [h4.2]; exact c12, by rw [g 11 (by decide), g 28 (by decide)]; exact c13⟩
        · unfold Mo; rw [g 26 (by decide), g 1 (by decide), g 3 (by decide)]; exact c3
        · unfold CH; rw [g 7 (by decide), g 9 (by decide)]; exact c4
        · unfold MH; rw [h4.1, g 27 (by decide)]; exact c5
  · rcases hm with ⟨-, a, kk⟩ | ⟨a, -⟩
    · refine ⟨a.trans h5.symm, fun z => ?_, inv_q H (by rw [hμ]; exact same.rf) kk (by decide)⟩
      exact absurd (show (1 : Int32) = 0 from h5.symm.trans z) (by decide)
    · omega
theorem m_firstError (H : InvD μ n q h w bs) (h29 : μ2 29 = μ 6) (hc : HC μ μ2 r5 (fun (r : Int32) (μ' : Mem) => dfa (μ 6) w ≠ 4 ∧ ((∃ i, i < w ∧ r = nI i ∧ dfa (μ 6) (i + 1) = 5 ∧ ∀ x, x ≤ i → dfa (μ 6) x ≠ 5) ∨ (r = nI w ∧ ∀ x, x ≤ w → dfa (μ 6) x ≠ 5)) ∧ μ' = μ) (fun E : String => dfa (μ 6) w = 4 ∧ E = eISE) cd1h)
    (hm : ((dfa (μ2 29) w = 4 ∧ μ3 25 7 = 1) ∨ (∃ e9, fE (μ2 29) w e9 ∧ r6 = nI e9 ∧ μ3 25 7 = 0)) ∧ kp μ2 μ3 [25]) : TailOK r5 r6 μ3 := by
  rw [h29] at hm
  obtain ⟨hm, kk⟩ := hm
  rcases hc with ⟨h5, v, μ1, ⟨hd, hv, rfl⟩, hμ⟩ | ⟨E, ⟨hd, -⟩, h5, hμ⟩
  · rcases hm with ⟨a, -⟩ | ⟨e9, ⟨f1, f2, f3, f4⟩, hr, h0⟩
    · exact absurd a hd
    · refine ⟨h0.trans h5.symm, fun _ => ?_, inv_q H (by rw [hμ]; exact (same.rf).o33 (by decide)) kk (by decide)⟩
      rw [kk.2 33 (by decide), hμ, o33, hr]
      rcases hv with ⟨i, hi, rfl, v1, v2⟩ | ⟨rfl, v1⟩
      · rcases Nat.lt_trichotomy e9 i with z | z | z
        · exact absurd (f3 (by omega)) (v2 (e9 + 1) (by omega))
        · rw [z]
        · exact absurd v1 (f2 (i + 1) (by omega))
      · rcases Nat.lt_or_ge e9 w with z | z
        · exact absurd (f3 z) (v1 (e9 + 1) (by omega))
        · rw [show e9 = w by omega]
  · rcases hm with ⟨-, a⟩ | ⟨e9, f, -⟩
    · refine ⟨a.trans h5.symm, fun z => ?_, inv_q H (by rw [hμ]; exact same.rf) kk (by decide)⟩
      exact absurd (show (1 : Int32) = 0 from h5.symm.trans z) (by decide)
    · exact absurd hd (fE_no f)
/-- a state that comes back -/
theorem back_st {f : Nat → Int32} (hv : vS f) (g1 : μ1 1 = upd (upd (μ 1) 0 (f 0)) 1 (f 1)) (g3 : ∀ k, k < 16 → μ1 3 k = f (k + 2)) (m26 : ∀ k, k < 18 → μ3 26 k = f k) : ∃ n', μ1 1 0 = nI n' ∧ TV n' (μ1 1 1) (μ1 3) ∧ Mo μ3 n' (μ1 1 1) (μ1 3) := by
  obtain ⟨n', pr', th', hT, hf⟩ := hv
  have e0 : f 0 = nI n' := (hf 0 (by omega)).trans rfl
  have e1 : f 1 = pr' := (hf 1 (by omega)).trans rfl
  have e2 : ∀ k, k < 16 → f (k + 2) = th' k := fun k hk => by
    rw [hf (k + 2) (by omega)]
    unfold stV
    rw [if_neg (by omega), if_neg (by omega), Nat.add_sub_cancel]
  have a0 : μ1 1 0 = nI n' := by rw [g1, pk_un (by omega), pk_us, e0]
  have a1 : μ1 1 1 = pr' := by rw [g1, pk_us, e1]
  refine ⟨n', a0, ?_, ?_, ?_, ?_⟩
  · rw [a1]; exact TV_cong hT (fun i hi => by rw [g3 i hi, e2 i hi])
  · rw [m26 0 (by omega), e0]
  · rw [m26 1 (by omega), e1, a1]
  · intro i hi
    rw [m26 (2 + i) (by omega), g3 i hi, Nat.add_comm 2 i]
theorem m_undo (H : InvD μ n q h w bs) (hc : HC μ μ2 r5 (fun (r : Int32) (μ' : Mem) => ∃ y, q = y + 1 ∧ r = nI y ∧ μ' 1 = upd (upd (μ 1) 0 (h y 0)) 1 (h y 1) ∧ μ' 3 = (fun k => if k < 16 then h y (k + 2) else μ 3 k) ∧ CH μ' y h ∧ same μ μ' [1, 3, 7]) (fun E : String => q = 0 ∧ E = eISE) cd1h)
    (hm : (q = 0 ∧ μ3 25 7 = 1 ∧ kp μ2 μ3 [25]) ∨ ∃ y, q = y + 1 ∧ r6 = nI y ∧ μ3 25 2 = nI y ∧ (∀ k, k < 18 → μ3 26 k = h y k) ∧ μ3 25 7 = 0 ∧ (μ3 25 4 = μ2 25 4 ∧ μ3 25 6 = μ2 25 6) ∧ same μ2 μ3 [25, 26]) : TailOK r5 r6 μ3 := by
  rcases hc with ⟨h5, v, μ1, ⟨y, rfl, hv, g1, g3, gC, gs⟩, hμ⟩ | ⟨E, ⟨hq, -⟩, h5, hμ⟩
  · rcases hm with ⟨a, -⟩ | ⟨y2, e, hr, h2, m26, h0, h4, hs⟩
    · omega
    · have ey : y = y2 := by omega
      subst ey
      obtain ⟨n', a0, a1, a2⟩ := back_st (μ3 := μ3) (H.vs y (by omega)) g1 (fun k hk => by rw [g3]; exact if_pos hk) m26
      have gs' : same μ μ1 [1, 3, 7, 9] := gs.mono (by decide)
      have e27 : μ3 27 = μ 27 := by rw [hs 27 (by decide), hμ, mset_ne _ _ (by decide), gs 27 (by decide)]
      have hMH : MH μ3 y h := by
        obtain ⟨-, q1, q2⟩ := H.2.2.2.2.1
        exact ⟨h2, by omega, fun t ht k hk => by rw [e27]; exact q2 t (by omega) k hk⟩
      refine ⟨h0.trans h5.symm, fun _ => ?_, inv_mod H a0 a1 gC (fun t ht => H.vs t (by omega)) gs' hμ a2 hMH h4 (hs.mono (by decide))⟩
      rw [hs 33 (by decide), hμ, o33, hv, hr]
  · rcases hm with ⟨-, a, kk⟩ | ⟨y, e, -⟩
    · refine ⟨a.trans h5.symm, fun z => ?_, inv_q H (by rw [hμ]; exact same.rf) kk (by decide)⟩
      exact absurd (show (1 : Int32) = 0 from h5.symm.trans z) (by decide)
    · omega
theorem m_restoreSnapshot (H : InvD μ n q h w bs) (hs12 : same μ μ2 CC) (hc : HC μ μ2 r5 (fun (r : Int32) (μ' : Mem) => bs = true ∧ r = μ 11 0 ∧ μ' 1 = upd (upd (μ 1) 0 (μ 11 0)) 1 (μ 11 1) ∧ μ' 3 = rdS (μ 3) (μ 11) 0 16 ∧ CH μ' (remM q) (remH q h (stV (μ 1 0) (μ 1 1) (μ 3))) ∧ same μ μ' [1, 3, 7, 9]) (fun E : String => bs = false ∧ E = eISE) cd1h)
    (hm : (bs = false ∧ μ3 25 7 = 1 ∧ kp μ2 μ3 [25]) ∨ (bs = true ∧ r6 = μ2 28 0 ∧ (∀ k, k < 18 → μ3 26 k = μ2 28 k) ∧ MH μ3 (remM q) (remH q h (stV (nI n) (μ 1 1) (μ 3))) ∧ μ3 25 7 = 0 ∧ (μ3 25 4 = μ2 25 4 ∧ μ3 25 6 = μ2 25 6) ∧ same μ2 μ3 [25, 26, 27])) : TailOK r5 r6 μ3 := by
  have e28 : μ2 28 = μ 28 := hs12 28 (by decide)
  rw [e28] at hm
  rcases hc with ⟨h5, v, μ1, ⟨hb, hv, g1, g3, gC, gs⟩, hμ⟩ | ⟨E, ⟨hb, -⟩, h5, hμ⟩
  · rcases hm with ⟨a, -⟩ | ⟨-, hr, m26, mh, h0, h4, hs⟩
    · rw [a] at hb; cases hb
    · obtain ⟨v1, v2⟩ := H.sn hb
      obtain ⟨n', a0, a1, a2⟩ := back_st (μ3 := μ3) v1 g1 (fun k hk => by rw [g3]; unfold rdS; rw [if_pos hk, Nat.zero_add, Nat.add_comm]) (fun k hk => (m26 k hk).trans (v2 k hk))
      rw [← H.1] at mh
      refine ⟨h0.trans h5.symm, fun _ => ?_, inv_mod H a0 a1 gC (vS_rem H) gs hμ a2 mh h4 hs⟩
      rw [hs 33 (by decide), hμ, o33, hv, hr, v2 0 (by omega)]
  · rcases hm with ⟨-, a, kk⟩ | ⟨a, -⟩
    · refine ⟨a.trans h5.symm, fun z => ?_, inv_q H (by rw [hμ]; exact same.rf) kk (by decide)⟩
      exact absurd (show (1 : Int32) = 0 from h5.symm.trans z) (by decide)
    · rw [a] at hb; cases hb
theorem m_wouldFall (H : InvD μ n q h w bs) (hc : HC μ μ2 r5 (fun (r : Int32) (μ' : Mem) => ∃ j k, j < n ∧ k ≤ 15 ∧ p0 = nI j ∧ p1 = nI k ∧ r = nI (ct (coreI (μ 3) (μ 1 1) k (allI n) &&& (coreI (μ 3) (μ 1 1) k (allI n &&& (bitI (nI j) ^^^ (-1))) ^^^ (-1)))) ∧ μ' = μ) (fun E : String => dem1 (μ 1 0) p0 = some E ∨ (dem1 (μ 1 0) p0 = none ∧ demK p1 = some E)) (cd2h eIOB))
    (hm : ((hasB (nI n) p0 = false ∧ μ3 25 7 = 1) ∨ (hasB (nI n) p0 = true ∧ inR p1 0 15 = false ∧ μ3 25 7 = 2) ∨ ∃ j k, j < n ∧ k ≤ 15 ∧ p0 = nI j ∧ p1 = nI k ∧ r6 = nI (ct (coreI (μ 3) (μ 1 1) k (allI n) &&& (coreI (μ 3) (μ 1 1) k (allI n &&& (bitI (nI j) ^^^ (-1))) ^^^ (-1)))) ∧ μ3 25 7 = 0) ∧ kp μ2 μ3 [25]) : TailOK r5 r6 μ3 := by
  have hn := H.2.1.1
  obtain ⟨hm, kk⟩ := hm
  rcases hc with ⟨h5, v, μ1, ⟨j, k, hj, hk, rfl, rfl, hv, rfl⟩, hμ⟩ | ⟨E, hx, h5, hμ⟩
  · rcases hm with ⟨a, -⟩ | ⟨-, a, -⟩ | ⟨j2, k2, hj2, hk2, e1, e2, hr, h0⟩
    · rw [hasB_j hn hj] at a; cases a
    · rw [inR_k hk] at a; cases a
    · have ei : j = j2 := nI_inj3 (by omega) (by omega) e1
      have ej : k = k2 := nI_inj3 (by omega) (by omega) e2
      subst ei; subst ej
      refine ⟨h0.trans h5.symm, fun _ => ?_, inv_q H (by rw [hμ]; exact (same.rf).o33 (by decide)) kk (by decide)⟩
      rw [kk.2 33 (by decide), hμ, o33, hv, hr]
  · rcases hx with hx | ⟨hx1, hx⟩
    · obtain ⟨hb, rfl⟩ := dem1_E hx
      rw [H.1] at hb
      have h5' : r5 = 1 := h5.trans (by decide +kernel)
      rcases hm with ⟨-, a⟩ | ⟨a, -⟩ | ⟨j2, k2, hj2, hk2, e1, e2, -⟩
      · refine ⟨a.trans h5'.symm, fun z => ?_, inv_q H (by rw [hμ]; exact same.rf) kk (by decide)⟩
        rw [h5'] at z; exact absurd z (by decide)
      · rw [hb] at a; cases a
      · rw [e1, hasB_j hn hj2] at hb; cases hb
    · obtain ⟨hb, rfl⟩ := demK_E hx
      have h5' : r5 = 2 := h5.trans (by decide +kernel)
      have hp : hasB (nI n) p0 = true := by
        rw [← H.1]
        unfold dem1 at hx1
        by_cases c : hasB (μ 1 0) p0 = true
        · exact c
        · rw [if_neg c] at hx1; cases hx1
      rcases hm with ⟨a, -⟩ | ⟨-, -, a⟩ | ⟨j2, k2, hj2, hk2, e1, e2, -⟩
      · rw [hp] at a; cases a
      · refine ⟨a.trans h5'.symm, fun z => ?_, inv_q H (by rw [hμ]; exact same.rf) kk (by decide)⟩
        rw [h5'] at z; exact absurd z (by decide)
      · rw [e2, inR_k hk2] at hb; cases hb
theorem m_bestProp (H : InvD μ n q h w bs) (hc : HC μ μ2 r5 (fun (r : Int32) (μ' : Mem) => ∃ k, k ≤ 15 ∧ p0 = nI k ∧ μ 1 1 ≠ allI n ∧ r = nI (bestI (μ 3) (μ 1 1) n k n).1 ∧ μ' = μ) (fun E : String => demK p0 = some E ∨ (∃ k, k ≤ 15 ∧ p0 = nI k ∧ μ 1 1 = allI n ∧ E = eNSE)) (cd2h eIAE))
    (hm : ((inR p0 0 15 = false ∧ μ3 25 7 = 1) ∨ (∃ k, k ≤ 15 ∧ p0 = nI k ∧ μ 1 1 = allI n ∧ μ3 25 7 = 2) ∨ ∃ k, k ≤ 15 ∧ p0 = nI k ∧ μ 1 1 ≠ allI n ∧ r6 = nI (bestI (μ 3) (μ 1 1) n k n).1 ∧ μ3 25 7 = 0) ∧ kp μ2 μ3 [25]) : TailOK r5 r6 μ3 := by
  obtain ⟨hm, kk⟩ := hm
  rcases hc with ⟨h5, v, μ1, ⟨k, hk, rfl, hp, hv, rfl⟩, hμ⟩ | ⟨E, hx, h5, hμ⟩
  · rcases hm with ⟨a, -⟩ | ⟨k2, -, -, a, -⟩ | ⟨k2, hk2, e, -, hr, h0⟩
    · rw [inR_k hk] at a; cases a
    · exact absurd a hp
    · have ej : k = k2 := nI_inj3 (by omega) (by omega) e
      subst ej
      refine ⟨h0.trans h5.symm, fun _ => ?_, inv_q H (by rw [hμ]; exact (same.rf).o33 (by decide)) kk (by decide)⟩
      rw [kk.2 33 (by decide), hμ, o33, hv, hr]
  · rcases hx with hx | ⟨k, hk, rfl, hp, rfl⟩
    · obtain ⟨hb, rfl⟩ := demK_E hx
      have h5' : r5 = 1 := h5.trans (by decide +kernel)
      rcases hm with ⟨-, a⟩ | ⟨k2, hk2, e, -⟩ | ⟨k2, hk2, e, -⟩
      · refine ⟨a.trans h5'.symm, fun z => ?_, inv_q H (by rw [hμ]; exact same.rf) kk (by decide)⟩
        rw [h5'] at z; exact absurd z (by decide)
      · rw [e, inR_k hk2] at hb; cases hb
      · rw [e, inR_k hk2] at hb; cases hb
    · have h5' : r5 = 2 := h5.trans (by decide +kernel)
      rcases hm with ⟨a, -⟩ | ⟨k2, -, -, -, a⟩ | ⟨k2, -, -, a, -⟩
      · rw [inR_k hk] at a; cases a
      · refine ⟨a.trans h5'.symm, fun z => ?_, inv_q H (by rw [hμ]; exact same.rf) kk (by decide)⟩
        rw [h5'] at z; exact absurd z (by decide)
      · exact absurd hp a
/-- the calls without a helper -/
theorem m_clearText (H : InvD μ n q h w bs) (hc : r5 = μ 4 1 ∧ μ2 = mset μ 4 (upd (μ 4) 1 0)) (hm : r6 = μ2 25 6 ∧ μ3 25 7 = 0 ∧ μ3 25 6 = 0 ∧ (μ3 25 2 = μ2 25 2 ∧ μ3 25 4 = μ2 25 4) ∧ same μ2 μ3 [25]) : r5 = r6 ∧ Inv μ3 := by
  obtain ⟨h5, hμ⟩ := hc
  obtain ⟨h6, -, z6, z2, hs⟩ := hm
  have e25 : μ2 25 = μ 25 := by rw [hμ, mset_ne _ _ (by decide)]
  rw [e25] at z2 h6
  have g : ∀ k, k ∉ [4, 25] → μ3 k = μ k := fun k hk => by
    rw [hs k (fun z => hk (by simp only [List.mem_cons, List.not_mem_nil, or_false] at z ⊢; omega)), hμ, mset_ne _ _ (fun z => hk (by rw [z]; decide))]
  have e4 : μ3 4 1 = 0 := by rw [hs 4 (by decide), hμ, mset_same, pk_us]
  obtain ⟨c1, c2, c3, c4, c5, c6, c7, c8, c9, c10, c11, c12, c13⟩ := H
  refine ⟨by rw [h5, h6, c7, c8], n, q, h, 0, bs, by rw [g 1 (by decide)]; exact c1, by rw [g 1 (by decide), g 3 (by decide)]; exact c2, ?_, ?_, ?_, c6, e4, z6, by omega, by rw [g 29 (by decide), g 6 (by decide)]; exact c10, by rw [g 0 (by decide)]; exact c11, by rw [z2.2]; exact c12, by rw [g 11 (by decide), g 28 (by decide)]; exact c13⟩
  · unfold Mo; rw [g 26 (by decide), g 1 (by decide), g 3 (by decide)]; exact c3
  · unfold CH; rw [g 7 (by decide), g 9 (by decide)]; exact c4
  · unfold MH; rw [z2.1, g 27 (by decide)]; exact c5
theorem m_takeSnapshot (H : InvD μ n q h w bs) (hc : r5 = μ 1 0 ∧ μ2 = mset (mset μ 11 (wrS (μ 11) 0 (μ 1 0) (μ 1 1) (μ 3) 16)) 0 (upd (μ 0) 4 1)) (hm : r6 = nI n ∧ (∀ k, k < 18 → μ3 28 k = stV (nI n) (μ 1 1) (μ 3) k) ∧ μ3 25 7 = 0 ∧ μ3 25 4 = 1 ∧ (μ3 25 2 = μ2 25 2 ∧ μ3 25 6 = μ2 25 6) ∧ same μ2 μ3 [25, 28]) : r5 = r6 ∧ Inv μ3 := by
  obtain ⟨h5, hμ⟩ := hc
  obtain ⟨h6, m28, -, z4, z2, hs⟩ := hm
  have e25 : μ2 25 = μ 25 := by rw [hμ, mset_ne _ _ (by decide), mset_ne _ _ (by decide)]
  rw [e25] at z2
  have g : ∀ k, k ∉ [0, 11, 25, 28] → μ3 k = μ k := fun k hk => by
    rw [hs k (fun z => hk (by simp only [List.mem_cons, List.not_mem_nil, or_false] at z ⊢; omega)), hμ, mset_ne _ _ (fun z => hk (by rw [z]; decide)), mset_ne _ _ (fun z => hk (by rw [z]; decide))]
  have e11 : ∀ k, k < 18 → μ3 11 k = stV (nI n) (μ 1 1) (μ 3) k := fun k hk => by
    rw [hs 11 (by decide), hμ, mset_ne _ _ (by decide), mset_same, H.1]
    unfold wrS stV
    by_cases a : k = 0
    · rw [if_pos a, if_pos a]
    · rw [if_neg a, if_neg a]
      by_cases b : k = 1
      · rw [if_pos (by omega), if_pos b]
      · rw [if_neg (by omega), if_neg b, if_pos (by omega)]
  have e0 : μ3 0 4 = 1 := by rw [hs 0 (by decide), hμ, mset_same, pk_us]
  have hT := H.2.1
  obtain ⟨c1, c2, c3, c4, c5, c6, c7, c8, c9, c10, c11, c12, c13⟩ := H
  refine ⟨by rw [h5, h6, c1], n, q, h, w, true, by rw [g 1 (by decide)]; exact c1, by rw [g 1 (by decide), g 3 (by decide)]; exact c2, ?_, ?_, ?_, c6, by rw [g 4 (by decide)]; exact c7, by rw [z2.2]; exact c8, c9, by rw [g 29 (by decide), g 6 (by decide)]; exact c10, e0, z4, fun _ => ⟨⟨n, μ 1 1, μ 3, hT, e11⟩, fun k hk => by rw [m28 k hk, e11 k hk]⟩⟩
  · unfold Mo; rw [g 26 (by decide), g 1 (by decide), g 3 (by decide)]; exact c3
  · unfold CH; rw [g 7 (by decide), g 9 (by decide)]; exact c4
  · unfold MH; rw [z2.1, g 27 (by decide)]; exact c5
end MM
