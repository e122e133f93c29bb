/-! ===== p38: the law's helpers with loops ===== -/
theorem ctN_t {F : Nat → Bool} {i : Nat} (h : F i = true) : nI (fb_ct F i) + 1 = nI (fb_ct F (i + 1)) := by rw [fb_ct_succ, if_pos h, nI_1]
theorem ctN_f {F : Nat → Bool} {i : Nat} (h : F i = false) : nI (fb_ct F i) + 0 = nI (fb_ct F (i + 1)) := by rw [fb_ct_succ, if_neg (by rw [h]; decide)]; exact Int32.add_zero _
theorem freeN_le (th : Nat → Int32) (pr : Int32) (n : Nat) : freeN th pr n ≤ 15 := topK_le _ _
theorem colN_le (th : Nat → Int32) (pr : Int32) (n j : Nat) : colN th pr n j ≤ 15 := colS_le _ _
theorem fall_16 (th : Nat → Int32) (pr : Int32) (n j k : Nat) : fallN th pr n j k ≤ 16 := ct_le _
theorem pieces_16 (th : Nat → Int32) (core : Int32) : (piecesI th core 16).1 ≤ ct core := by
  have := pieces_le (th := th) (core := core) 16 (Nat.le_refl _)
  omega
theorem col_bound {th : Nat → Int32} {pr : Int32} {n : Nat} (hT : TV n pr th) (hpr : pr = 0) : colM th pr n n ≤ freeN th pr n + 1 := by
  subst hpr
  exact colM_free hT n (Nat.le_refl _)
theorem fl_n {n : Nat} {pr : Int32} {th : Nat → Int32} (hT : TV n pr th) (h0 : 0 < n) : vf_n32 (FP.fmul (FP.fdiv (FP.i2f (nI (sumE th))) (FP.i2f (nI n))) (FP.i2f (nI n))) ∧ Op.cmpValue (FP.fcmp (FP.fmul (FP.fdiv (FP.i2f (nI (sumE th))) (FP.i2f (nI n))) (FP.i2f (nI n))) (FP.i2f (nI (sumE th) - 1))) .l = 1 ∧ Op.cmpValue (FP.fcmp (FP.fmul (FP.fdiv (FP.i2f (nI (sumE th))) (FP.i2f (nI n))) (FP.i2f (nI n))) (FP.i2f (nI (sumE th) + 1))) .g = -1 := by
  have h1 := sumE_le (TV_0 hT)
  have hn := hT.1
  obtain ⟨b, rfl⟩ : ∃ b, n = b + 1 := ⟨n - 1, by omega⟩
  obtain ⟨a1, a2, a3⟩ := fl_ok (sumE th) (by omega) b (by omega)
  exact ⟨a1, by rw [a2]; rfl, by rw [a3]; rfl⟩
theorem yok_L_isCoreSo : yOK yL_isCoreSo 2 := by unfold yOK; decide +kernel
set_option maxRecDepth 20000 in
set_option maxHeartbeats 4000000 in
theorem c_L_isCoreSo {l : Launch} {D : va_G} {ad : Nat → Nat} {cI cL : ClassId} (hfl : l.flags = flags0) (hok : adOK ad) {μ : Mem} {n : Nat} {pr : Int32} {th : Nat → Int32} (H : Bs n pr th μ) (k : Nat) (hk : k ≤ 15) : CtI l D ad cI cL yL_isCoreSo wsL_isCoreSo (RM 8 136) [.ref (ad 0), .int (nI k)] μ (fun (r : Int32) (μ' : Mem) => r = 1 ∧ Bs n pr th μ') := by
  refine ct_i (cc := cL_isCoreSo) (maxL := 6) (own := RL) .boolean hfl hok (by decide) rfl rfl rfl (Nat.le_of_ble_eq_true rfl) (fun p e s m below meth c C hr => ?_)
  refine go_lv (lv' := [some (.ref (ad 0)), some (.int (nI k)), none, none, none, none]) rfl ?_
  have hn := H.T.1
  have key : ∀ d i μ1, n = i + d → Bs n pr th μ1 → Go p l e (headSpec wsL_isCoreSo (RM 8 136)).room s m ([.ref (ad 0), .int (nI k)] : List Value).toArray below meth c 0 0 (MQ below (va_Qi (fun (r : Int32) (μ' : Mem) => r = 1 ∧ Bs n pr th μ') (fun μ' t => PreW D ad cI cL μ' t) (AW ad)) ([.ref (ad 0), .int (nI k)] : List Value).toArray s 0 0 (AW ad)) (AW ad) D ad cI cL 6 53 [some (.ref (ad 0)), some (.int (nI k)), some (.int (coreI th pr k (allI n))), some (.int 1), some (.int (nI i)), none] [] (μ1) := by
    intro d
    induction d with
    | zero =>
      intro i μ1 hd H
      refine go_iload4 C (pc := 53) dL_isCoreSo_53 ?_
      refine go_aload0 C (pc := 55) dL_isCoreSo_55 ?_
      refine go_ciV0 C (pc := 56) obj_0 (q_plantCount C.fl C.ok H) gL_isCoreSo_X7_plantCount rfl rfl yok_X7_plantCount ⟨rfl, rfl⟩ ⟨Nat.le_of_ble_eq_true rfl, Nat.le_of_ble_eq_true rfl⟩ (Nat.le_of_ble_eq_true rfl) ⟨Nat.zero_le _, Nat.zero_le _⟩ dL_isCoreSo_56 (fun r1 μ1 hc1 => ?_)
      obtain ⟨rfl, H1⟩ := hc1
      refine go_icmp_ge C (pc := 59) (tgt := 192) dL_isCoreSo_59 (by decide) (fun h59 => ?_) (fun h59 => ?_)
      · refine go_aload0 C (pc := 192) dL_isCoreSo_192 ?_
        refine go_iload1 C (pc := 193) dL_isCoreSo_193 ?_
        refine go_ciV1 C (pc := 194) obj_0 (q_corePieces C.fl C.ok H1 _ hk) gL_isCoreSo_X7_corePieces rfl rfl yok_X7_corePieces ⟨rfl, rfl⟩ ⟨Nat.le_of_ble_eq_true rfl, Nat.le_of_ble_eq_true rfl⟩ (Nat.le_of_ble_eq_true rfl) ⟨Nat.zero_le _, Nat.zero_le _⟩ dL_isCoreSo_194 (fun r3 μ3 hc3 => ?_)
        obtain ⟨rfl, H3⟩ := hc3
        refine go_istore4 C (pc := 197) dL_isCoreSo_197 ?_
        refine go_iload3 C (pc := 199) dL_isCoreSo_199 ?_
        refine go_if_eq C (pc := 200) (tgt := 238) dL_isCoreSo_200 (by decide) (fun h200 => ?_) (fun h200 => ?_)
        · exact absurd h200 (by decide)
        · refine go_iload4 C (pc := 203) dL_isCoreSo_203 ?_
          refine go_iload2 C (pc := 205) dL_isCoreSo_205 ?_
          refine go_ciS1 C (pc := 206) (c_L_bits C.fl C.ok _ _ (sm_core (sm_all hn))) gL_isCoreSo_L_bits rfl yok_L_bits ⟨rfl, rfl⟩ ⟨Nat.le_of_ble_eq_true rfl, Nat.le_of_ble_eq_true rfl⟩ (Nat.le_of_ble_eq_true rfl) ⟨Nat.zero_le _, Nat.zero_le _⟩ dL_isCoreSo_206 (fun r5 μ5 hc5 => ?_)
          obtain ⟨rfl, hm5⟩ := hc5
          replace hm5 := hm5.symm
          subst hm5
          refine go_icmp_gt C (pc := 209) (tgt := 238) dL_isCoreSo_209 (by decide) (fun h209 => ?_) (fun h209 => ?_)
          · exact absurd h209 (nI_nlt (pieces_16 _ _) (by have := ct_le (coreI th pr k (allI n)); omega))
          · refine go_iload4 C (pc := 212) dL_isCoreSo_212 ?_
            refine go_if_ne C (pc := 214) (tgt := 221) dL_isCoreSo_214 (by decide) (fun h214 => ?_) (fun h214 => ?_)
            · refine go_iconst C (pc := 221) (v := 0) (by decide) dL_isCoreSo_221 ?_
              refine go_iload2 C (pc := 222) dL_isCoreSo_222 ?_
              refine go_if_ne C (pc := 223) (tgt := 230) dL_isCoreSo_223 (by decide) (fun h223 => ?_) (fun h223 => ?_)
              · refine go_iconst C (pc := 230) (v := 0) (by decide) dL_isCoreSo_230 ?_
                refine go_icmp_ne C (pc := 231) (tgt := 238) dL_isCoreSo_231 (by decide) (fun h231 => ?_) (fun h231 => ?_)
                · exact absurd rfl h231
                · refine go_iconst C (pc := 234) (v := 1) (by decide) dL_isCoreSo_234 ?_
                  refine go_goto C (pc := 235) (tgt := 239) dL_isCoreSo_235 (by decide) ?_
                  exact go_zret C hr dL_isCoreSo_239 (Or.inr rfl) ⟨rfl, H3⟩
              · refine go_iconst C (pc := 226) (v := 1) (by decide) dL_isCoreSo_226 ?_
                refine go_goto C (pc := 227) (tgt := 231) dL_isCoreSo_227 (by decide) ?_
                refine go_icmp_ne C (pc := 231) (tgt := 238) dL_isCoreSo_231 (by decide) (fun h231 => ?_) (fun h231 => ?_)
                · exact absurd (by rw [(pieces_z (sm_core (sm_all hn))).mpr h223]; rfl) h214
                · refine go_iconst C (pc := 234) (v := 1) (by decide) dL_isCoreSo_234 ?_
                  refine go_goto C (pc := 235) (tgt := 239) dL_isCoreSo_235 (by decide) ?_
                  exact go_zret C hr dL_isCoreSo_239 (Or.inr rfl) ⟨rfl, H3⟩
            · refine go_iconst C (pc := 217) (v := 1) (by decide) dL_isCoreSo_217 ?_
              refine go_goto C (pc := 218) (tgt := 222) dL_isCoreSo_218 (by decide) ?_
              refine go_iload2 C (pc := 222) dL_isCoreSo_222 ?_
              refine go_if_ne C (pc := 223) (tgt := 230) dL_isCoreSo_223 (by decide) (fun h223 => ?_) (fun h223 => ?_)
              · refine go_iconst C (pc := 230) (v := 0) (by decide) dL_isCoreSo_230 ?_
                refine go_icmp_ne C (pc := 231) (tgt := 238) dL_isCoreSo_231 (by decide) (fun h231 => ?_) (fun h231 => ?_)
                · exact absurd ((pieces_z (sm_core (sm_all hn))).mp (nI_inj3 (by have := pieces_16 th (coreI th pr k (allI n)); have := ct_le (coreI th pr k (allI n)); omega) (by decide) (h214.trans (show (0 : Int32) = nI 0 from rfl)))) h223
                · refine go_iconst C (pc := 234) (v := 1) (by decide) dL_isCoreSo_234 ?_
                  refine go_goto C (pc := 235) (tgt := 239) dL_isCoreSo_235 (by decide) ?_
                  exact go_zret C hr dL_isCoreSo_239 (Or.inr rfl) ⟨rfl, H3⟩
              · refine go_iconst C (pc := 226) (v := 1) (by decide) dL_isCoreSo_226 ?_
                refine go_goto C (pc := 227) (tgt := 231) dL_isCoreSo_227 (by decide) ?_
                refine go_icmp_ne C (pc := 231) (tgt := 238) dL_isCoreSo_231 (by decide) (fun h231 => ?_) (fun h231 => ?_)
                · exact absurd rfl h231
                · refine go_iconst C (pc := 234) (v := 1) (by decide) dL_isCoreSo_234 ?_
                  refine go_goto C (pc := 235) (tgt := 239) dL_isCoreSo_235 (by decide) ?_
                  exact go_zret C hr dL_isCoreSo_239 (Or.inr rfl) ⟨rfl, H3⟩
      · exact absurd (show nI n ≤ nI i from nI_le (by omega) (by omega)) h59
    | succ d ih =>
      intro i μ1 hd H
      have hi : i < n := by omega
      refine go_iload4 C (pc := 53) dL_isCoreSo_53 ?_
      refine go_aload0 C (pc := 55) dL_isCoreSo_55 ?_
      refine go_ciV0 C (pc := 56) obj_0 (q_plantCount C.fl C.ok H) gL_isCoreSo_X7_plantCount rfl rfl yok_X7_plantCount ⟨rfl, rfl⟩ ⟨Nat.le_of_ble_eq_true rfl, Nat.le_of_ble_eq_true rfl⟩ (Nat.le_of_ble_eq_true rfl) ⟨Nat.zero_le _, Nat.zero_le _⟩ dL_isCoreSo_56 (fun r14 μ14 hc14 => ?_)
      obtain ⟨rfl, H14⟩ := hc14
      refine go_icmp_ge C (pc := 59) (tgt := 192) dL_isCoreSo_59 (by decide) (fun h59 => ?_) (fun h59 => ?_)
      · exact absurd h59 (nI_ge hi (by omega))
      · refine go_iload2 C (pc := 62) dL_isCoreSo_62 ?_
        refine go_iload4 C (pc := 63) dL_isCoreSo_63 ?_
        refine go_ishr C (pc := 65) dL_isCoreSo_65 ?_
        refine go_iconst C (pc := 66) (v := 1) (by decide) dL_isCoreSo_66 ?_
        refine go_iand C (pc := 67) dL_isCoreSo_67 ?_
        refine go_top (y := b2i (bt (coreI th pr k (allI n)) i)) (ask_b (by omega) (sm_core (sm_all hn))) ?_
        refine go_iconst C (pc := 68) (v := 1) (by decide) dL_isCoreSo_68 ?_
        refine go_icmp_ne C (pc := 69) (tgt := 76) dL_isCoreSo_69 (by decide) (fun h69 => ?_) (fun h69 => ?_)
        · refine go_iconst C (pc := 76) (v := 0) (by decide) dL_isCoreSo_76 ?_
          refine go_istore5 C (pc := 77) dL_isCoreSo_77 ?_
          refine go_iload3 C (pc := 79) dL_isCoreSo_79 ?_
          refine go_if_eq C (pc := 80) (tgt := 184) dL_isCoreSo_80 (by decide) (fun h80 => ?_) (fun h80 => ?_)
          · exact absurd h80 (by decide)
          · refine go_iload5 C (pc := 83) dL_isCoreSo_83 ?_
            refine go_aload0 C (pc := 85) dL_isCoreSo_85 ?_
            refine go_iload4 C (pc := 86) dL_isCoreSo_86 ?_
            refine go_ciV1 C (pc := 88) obj_0 (q_coreOf C.fl C.ok H14 _ hi) gL_isCoreSo_X7_coreOf rfl rfl yok_X7_coreOf ⟨rfl, rfl⟩ ⟨Nat.le_of_ble_eq_true rfl, Nat.le_of_ble_eq_true rfl⟩ (Nat.le_of_ble_eq_true rfl) ⟨Nat.zero_le _, Nat.zero_le _⟩ dL_isCoreSo_88 (fun r18 μ18 hc18 => ?_)
            obtain ⟨rfl, H18⟩ := hc18
            refine go_iload1 C (pc := 91) dL_isCoreSo_91 ?_
            refine go_icmp_lt C (pc := 92) (tgt := 99) dL_isCoreSo_92 (by decide) (fun h92 => ?_) (fun h92 => ?_)
            · refine go_iconst C (pc := 99) (v := 0) (by decide) dL_isCoreSo_99 ?_
              refine go_icmp_ne C (pc := 100) (tgt := 184) dL_isCoreSo_100 (by decide) (fun h100 => ?_) (fun h100 => ?_)
              · exact absurd rfl h100
              · refine go_iload5 C (pc := 103) dL_isCoreSo_103 ?_
                refine go_if_eq C (pc := 105) (tgt := 132) dL_isCoreSo_105 (by decide) (fun h105 => ?_) (fun h105 => ?_)
                · refine go_iload5 C (pc := 132) dL_isCoreSo_132 ?_
                  refine go_if_ne C (pc := 134) (tgt := 146) dL_isCoreSo_134 (by decide) (fun h134 => ?_) (fun h134 => ?_)
                  · exact absurd rfl h134
                  · refine go_aload0 C (pc := 137) dL_isCoreSo_137 ?_
                    refine go_iload4 C (pc := 138) dL_isCoreSo_138 ?_
                    refine go_ciV1 C (pc := 140) obj_0 (q_isPropped C.fl C.ok H18 _ hi) gL_isCoreSo_X7_isPropped rfl rfl yok_X7_isPropped ⟨rfl, rfl⟩ ⟨Nat.le_of_ble_eq_true rfl, Nat.le_of_ble_eq_true rfl⟩ (Nat.le_of_ble_eq_true rfl) ⟨Nat.zero_le _, Nat.zero_le _⟩ dL_isCoreSo_140 (fun r23 μ23 hc23 => ?_)
                    obtain ⟨rfl, H23⟩ := hc23
                    refine go_if_ne C (pc := 143) (tgt := 184) dL_isCoreSo_143 (by decide) (fun h143 => ?_) (fun h143 => ?_)
                    · exact absurd (core_pr H.T hk hi (bneg h143)) (by rw [bn1 h69]; decide)
                    · refine go_aload0 C (pc := 146) dL_isCoreSo_146 ?_
                      refine go_iload4 C (pc := 147) dL_isCoreSo_147 ?_
                      refine go_iload1 C (pc := 149) dL_isCoreSo_149 ?_
                      refine go_ciV2 C (pc := 150) obj_0 (q_wouldFall C.fl C.ok H23 _ _ hi hk) gL_isCoreSo_X7_wouldFall rfl rfl yok_X7_wouldFall ⟨rfl, rfl⟩ ⟨Nat.le_of_ble_eq_true rfl, Nat.le_of_ble_eq_true rfl⟩ (Nat.le_of_ble_eq_true rfl) ⟨Nat.zero_le _, Nat.zero_le _⟩ dL_isCoreSo_150 (fun r25 μ25 hc25 => ?_)
                      obtain ⟨rfl, H25⟩ := hc25
                      refine go_if_le C (pc := 153) (tgt := 160) dL_isCoreSo_153 (by decide) (fun h153 => ?_) (fun h153 => ?_)
                      · refine go_iconst C (pc := 160) (v := 0) (by decide) dL_isCoreSo_160 ?_
                        refine go_iload5 C (pc := 161) dL_isCoreSo_161 ?_
                        refine go_icmp_ne C (pc := 163) (tgt := 184) dL_isCoreSo_163 (by decide) (fun h163 => ?_) (fun h163 => ?_)
                        · exact absurd rfl h163
                        · refine go_aload0 C (pc := 166) dL_isCoreSo_166 ?_
                          refine go_iload4 C (pc := 167) dL_isCoreSo_167 ?_
                          refine go_iload1 C (pc := 169) dL_isCoreSo_169 ?_
                          refine go_ciV2 C (pc := 170) obj_0 (q_wouldFall C.fl C.ok H25 _ _ hi hk) gL_isCoreSo_X7_wouldFall rfl rfl yok_X7_wouldFall ⟨rfl, rfl⟩ ⟨Nat.le_of_ble_eq_true rfl, Nat.le_of_ble_eq_true rfl⟩ (Nat.le_of_ble_eq_true rfl) ⟨Nat.zero_le _, Nat.zero_le _⟩ dL_isCoreSo_170 (fun r28 μ28 hc28 => ?_)
                          obtain ⟨rfl, H28⟩ := hc28
                          refine go_iload2 C (pc := 173) dL_isCoreSo_173 ?_
                          refine go_ciS1 C (pc := 174) (c_L_bits C.fl C.ok _ _ (sm_core (sm_all hn))) gL_isCoreSo_L_bits rfl yok_L_bits ⟨rfl, rfl⟩ ⟨Nat.le_of_ble_eq_true rfl, Nat.le_of_ble_eq_true rfl⟩ (Nat.le_of_ble_eq_true rfl) ⟨Nat.zero_le _, Nat.zero_le _⟩ dL_isCoreSo_174 (fun r29 μ29 hc29 => ?_)
                          obtain ⟨rfl, hm29⟩ := hc29
                          replace hm29 := hm29.symm
                          subst hm29
                          refine go_icmp_gt C (pc := 177) (tgt := 184) dL_isCoreSo_177 (by decide) (fun h177 => ?_) (fun h177 => ?_)
                          · exact absurd h177 (nI_nlt fall_le (by have := ct_le (coreI th pr k (allI n)); omega))
                          · refine go_iconst C (pc := 180) (v := 1) (by decide) dL_isCoreSo_180 ?_
                            refine go_goto C (pc := 181) (tgt := 185) dL_isCoreSo_181 (by decide) ?_
                            refine go_istore3 C (pc := 185) dL_isCoreSo_185 ?_
                            refine go_iinc4 C (pc := 186) (v := 1) dL_isCoreSo_186 (by decide) ?_
                            refine go_goto C (pc := 189) (tgt := 53) dL_isCoreSo_189 (by decide) ?_
                            exact go_drop5 (go_lv (by rw [nI_1]) (ih (i + 1) _ (by omega) H28))
                      · exact absurd ((fall_pos H.T hi).mp (Nat.pos_of_ne_zero (fun e => h153 (by rw [e]; exact Int32.le_refl _)))) (by rw [bn1 h69]; decide)
                · exact absurd rfl h105
            · exact absurd ((core_iff hn hi hk).mpr (nle (by have := coreN_le th pr n i; omega) (by omega) h92)) (by rw [bn1 h69]; decide)
        · refine go_iconst C (pc := 72) (v := 1) (by decide) dL_isCoreSo_72 ?_
          refine go_goto C (pc := 73) (tgt := 77) dL_isCoreSo_73 (by decide) ?_
          refine go_istore5 C (pc := 77) dL_isCoreSo_77 ?_
          refine go_iload3 C (pc := 79) dL_isCoreSo_79 ?_
          refine go_if_eq C (pc := 80) (tgt := 184) dL_isCoreSo_80 (by decide) (fun h80 => ?_) (fun h80 => ?_)
          · exact absurd h80 (by decide)
          · refine go_iload5 C (pc := 83) dL_isCoreSo_83 ?_
            refine go_aload0 C (pc := 85) dL_isCoreSo_85 ?_
            refine go_iload4 C (pc := 86) dL_isCoreSo_86 ?_
            refine go_ciV1 C (pc := 88) obj_0 (q_coreOf C.fl C.ok H14 _ hi) gL_isCoreSo_X7_coreOf rfl rfl yok_X7_coreOf ⟨rfl, rfl⟩ ⟨Nat.le_of_ble_eq_true rfl, Nat.le_of_ble_eq_true rfl⟩ (Nat.le_of_ble_eq_true rfl) ⟨Nat.zero_le _, Nat.zero_le _⟩ dL_isCoreSo_88 (fun r32 μ32 hc32 => ?_)
            obtain ⟨rfl, H32⟩ := hc32
            refine go_iload1 C (pc := 91) dL_isCoreSo_91 ?_
            refine go_icmp_lt C (pc := 92) (tgt := 99) dL_isCoreSo_92 (by decide) (fun h92 => ?_) (fun h92 => ?_)
            · exact absurd ((core_iff hn hi hk).mp (b1 h69)) (Nat.not_le.mpr (nlt (by have := coreN_le th pr n i; omega) (by omega) h92))
            · refine go_iconst C (pc := 95) (v := 1) (by decide) dL_isCoreSo_95 ?_
              refine go_goto C (pc := 96) (tgt := 100) dL_isCoreSo_96 (by decide) ?_
              refine go_icmp_ne C (pc := 100) (tgt := 184) dL_isCoreSo_100 (by decide) (fun h100 => ?_) (fun h100 => ?_)
              · exact absurd rfl h100
              · refine go_iload5 C (pc := 103) dL_isCoreSo_103 ?_
                refine go_if_eq C (pc := 105) (tgt := 132) dL_isCoreSo_105 (by decide) (fun h105 => ?_) (fun h105 => ?_)
                · exact absurd h105 (by decide)
                · refine go_aload0 C (pc := 108) dL_isCoreSo_108 ?_
                  refine go_iload4 C (pc := 109) dL_isCoreSo_109 ?_
                  refine go_ciV1 C (pc := 111) obj_0 (q_isPropped C.fl C.ok H32 _ hi) gL_isCoreSo_X7_isPropped rfl rfl yok_X7_isPropped ⟨rfl, rfl⟩ ⟨Nat.le_of_ble_eq_true rfl, Nat.le_of_ble_eq_true rfl⟩ (Nat.le_of_ble_eq_true rfl) ⟨Nat.zero_le _, Nat.zero_le _⟩ dL_isCoreSo_111 (fun r36 μ36 hc36 => ?_)
                  obtain ⟨rfl, H36⟩ := hc36
                  refine go_if_ne C (pc := 114) (tgt := 132) dL_isCoreSo_114 (by decide) (fun h114 => ?_) (fun h114 => ?_)
                  · refine go_iload5 C (pc := 132) dL_isCoreSo_132 ?_
                    refine go_if_ne C (pc := 134) (tgt := 146) dL_isCoreSo_134 (by decide) (fun h134 => ?_) (fun h134 => ?_)
                    · refine go_aload0 C (pc := 146) dL_isCoreSo_146 ?_
                      refine go_iload4 C (pc := 147) dL_isCoreSo_147 ?_
                      refine go_iload1 C (pc := 149) dL_isCoreSo_149 ?_
                      refine go_ciV2 C (pc := 150) obj_0 (q_wouldFall C.fl C.ok H36 _ _ hi hk) gL_isCoreSo_X7_wouldFall rfl rfl yok_X7_wouldFall ⟨rfl, rfl⟩ ⟨Nat.le_of_ble_eq_true rfl, Nat.le_of_ble_eq_true rfl⟩ (Nat.le_of_ble_eq_true rfl) ⟨Nat.zero_le _, Nat.zero_le _⟩ dL_isCoreSo_150 (fun r39 μ39 hc39 => ?_)
                      obtain ⟨rfl, H39⟩ := hc39
                      refine go_if_le C (pc := 153) (tgt := 160) dL_isCoreSo_153 (by decide) (fun h153 => ?_) (fun h153 => ?_)
                      · exact absurd h153 (nI_nle ((fall_pos H.T hi).mpr (b1 h69)) (by have := fall_16 th pr n i k; omega))
                      · refine go_iconst C (pc := 156) (v := 1) (by decide) dL_isCoreSo_156 ?_
                        refine go_goto C (pc := 157) (tgt := 161) dL_isCoreSo_157 (by decide) ?_
                        refine go_iload5 C (pc := 161) dL_isCoreSo_161 ?_
                        refine go_icmp_ne C (pc := 163) (tgt := 184) dL_isCoreSo_163 (by decide) (fun h163 => ?_) (fun h163 => ?_)
                        · exact absurd rfl h163
                        · refine go_aload0 C (pc := 166) dL_isCoreSo_166 ?_
                          refine go_iload4 C (pc := 167) dL_isCoreSo_167 ?_
                          refine go_iload1 C (pc := 169) dL_isCoreSo_169 ?_
                          refine go_ciV2 C (pc := 170) obj_0 (q_wouldFall C.fl C.ok H39 _ _ hi hk) gL_isCoreSo_X7_wouldFall rfl rfl yok_X7_wouldFall ⟨rfl, rfl⟩ ⟨Nat.le_of_ble_eq_true rfl, Nat.le_of_ble_eq_true rfl⟩ (Nat.le_of_ble_eq_true rfl) ⟨Nat.zero_le _, Nat.zero_le _⟩ dL_isCoreSo_170 (fun r42 μ42 hc42 => ?_)
                          obtain ⟨rfl, H42⟩ := hc42
                          refine go_iload2 C (pc := 173) dL_isCoreSo_173 ?_
                          refine go_ciS1 C (pc := 174) (c_L_bits C.fl C.ok _ _ (sm_core (sm_all hn))) gL_isCoreSo_L_bits rfl yok_L_bits ⟨rfl, rfl⟩ ⟨Nat.le_of_ble_eq_true rfl, Nat.le_of_ble_eq_true rfl⟩ (Nat.le_of_ble_eq_true rfl) ⟨Nat.zero_le _, Nat.zero_le _⟩ dL_isCoreSo_174 (fun r43 μ43 hc43 => ?_)
                          obtain ⟨rfl, hm43⟩ := hc43
                          replace hm43 := hm43.symm
                          subst hm43
                          refine go_icmp_gt C (pc := 177) (tgt := 184) dL_isCoreSo_177 (by decide) (fun h177 => ?_) (fun h177 => ?_)
                          · exact absurd h177 (nI_nlt fall_le (by have := ct_le (coreI th pr k (allI n)); omega))
                          · refine go_iconst C (pc := 180) (v := 1) (by decide) dL_isCoreSo_180 ?_
                            refine go_goto C (pc := 181) (tgt := 185) dL_isCoreSo_181 (by decide) ?_
                            refine go_istore3 C (pc := 185) dL_isCoreSo_185 ?_
                            refine go_iinc4 C (pc := 186) (v := 1) dL_isCoreSo_186 (by decide) ?_
                            refine go_goto C (pc := 189) (tgt := 53) dL_isCoreSo_189 (by decide) ?_
                            exact go_drop5 (go_lv (by rw [nI_1]) (ih (i + 1) _ (by omega) H42))
                    · exact absurd h134 (by decide)
                  · refine go_aload0 C (pc := 117) dL_isCoreSo_117 ?_
                    refine go_iload4 C (pc := 118) dL_isCoreSo_118 ?_
                    refine go_ciV1 C (pc := 120) obj_0 (q_neighbors C.fl C.ok H36 _ hi) gL_isCoreSo_X7_neighbors rfl rfl yok_X7_neighbors ⟨rfl, rfl⟩ ⟨Nat.le_of_ble_eq_true rfl, Nat.le_of_ble_eq_true rfl⟩ (Nat.le_of_ble_eq_true rfl) ⟨Nat.zero_le _, Nat.zero_le _⟩ dL_isCoreSo_120 (fun r45 μ45 hc45 => ?_)
                    obtain ⟨rfl, H45⟩ := hc45
                    refine go_iload2 C (pc := 123) dL_isCoreSo_123 ?_
                    refine go_iand C (pc := 124) dL_isCoreSo_124 ?_
                    refine go_ciS1 C (pc := 125) (c_L_bits C.fl C.ok _ _ (sm_and _ (sm_row H45.T (by omega)))) gL_isCoreSo_L_bits rfl yok_L_bits ⟨rfl, rfl⟩ ⟨Nat.le_of_ble_eq_true rfl, Nat.le_of_ble_eq_true rfl⟩ (Nat.le_of_ble_eq_true rfl) ⟨Nat.zero_le _, Nat.zero_le _⟩ dL_isCoreSo_125 (fun r46 μ46 hc46 => ?_)
                    obtain ⟨rfl, hm46⟩ := hc46
                    replace hm46 := hm46.symm
                    subst hm46
                    refine go_iload1 C (pc := 128) dL_isCoreSo_128 ?_
                    refine go_icmp_lt C (pc := 129) (tgt := 184) dL_isCoreSo_129 (by decide) (fun h129 => ?_) (fun h129 => ?_)
                    · exact absurd h129 (nI_nlt (core_deg H.T hi (b1 h69) (bpos h114)) (by have := ct_le (th i &&& coreI th pr k (allI n)); omega))
                    · refine go_iload5 C (pc := 132) dL_isCoreSo_132 ?_
                      refine go_if_ne C (pc := 134) (tgt := 146) dL_isCoreSo_134 (by decide) (fun h134 => ?_) (fun h134 => ?_)
                      · refine go_aload0 C (pc := 146) dL_isCoreSo_146 ?_
                        refine go_iload4 C (pc := 147) dL_isCoreSo_147 ?_
                        refine go_iload1 C (pc := 149) dL_isCoreSo_149 ?_
                        refine go_ciV2 C (pc := 150) obj_0 (q_wouldFall C.fl C.ok H45 _ _ hi hk) gL_isCoreSo_X7_wouldFall rfl rfl yok_X7_wouldFall ⟨rfl, rfl⟩ ⟨Nat.le_of_ble_eq_true rfl, Nat.le_of_ble_eq_true rfl⟩ (Nat.le_of_ble_eq_true rfl) ⟨Nat.zero_le _, Nat.zero_le _⟩ dL_isCoreSo_150 (fun r49 μ49 hc49 => ?_)
                        obtain ⟨rfl, H49⟩ := hc49
                        refine go_if_le C (pc := 153) (tgt := 160) dL_isCoreSo_153 (by decide) (fun h153 => ?_) (fun h153 => ?_)
                        · exact absurd h153 (nI_nle ((fall_pos H.T hi).mpr (b1 h69)) (by have := fall_16 th pr n i k; omega))
                        · refine go_iconst C (pc := 156) (v := 1) (by decide) dL_isCoreSo_156 ?_
                          refine go_goto C (pc := 157) (tgt := 161) dL_isCoreSo_157 (by decide) ?_
                          refine go_iload5 C (pc := 161) dL_isCoreSo_161 ?_
                          refine go_icmp_ne C (pc := 163) (tgt := 184) dL_isCoreSo_163 (by decide) (fun h163 => ?_) (fun h163 => ?_)
                          · exact absurd rfl h163
                          · refine go_aload0 C (pc := 166) dL_isCoreSo_166 ?_
                            refine go_iload4 C (pc := 167) dL_isCoreSo_167 ?_
                            refine go_iload1 C (pc := 169) dL_isCoreSo_169 ?_
                            refine go_ciV2 C (pc := 170) obj_0 (q_wouldFall C.fl C.ok H49 _ _ hi hk) gL_isCoreSo_X7_wouldFall rfl rfl yok_X7_wouldFall ⟨rfl, rfl⟩ ⟨Nat.le_of_ble_eq_true rfl, Nat.le_of_ble_eq_true rfl⟩ (Nat.le_of_ble_eq_true rfl) ⟨Nat.zero_le _, Nat.zero_le _⟩ dL_isCoreSo_170 (fun r52 μ52 hc52 => ?_)
                            obtain ⟨rfl, H52⟩ := hc52
                            refine go_iload2 C (pc := 173) dL_isCoreSo_173 ?_
                            refine go_ciS1 C (pc := 174) (c_L_bits C.fl C.ok _ _ (sm_core (sm_all hn))) gL_isCoreSo_L_bits rfl yok_L_bits ⟨rfl, rfl⟩ ⟨Nat.le_of_ble_eq_true rfl, Nat.le_of_ble_eq_true rfl⟩ (Nat.le_of_ble_eq_true rfl) ⟨Nat.zero_le _, Nat.zero_le _⟩ dL_isCoreSo_174 (fun r53 μ53 hc53 => ?_)
                            obtain ⟨rfl, hm53⟩ := hc53
                            replace hm53 := hm53.symm
                            subst hm53
                            refine go_icmp_gt C (pc := 177) (tgt := 184) dL_isCoreSo_177 (by decide) (fun h177 => ?_) (fun h177 => ?_)
                            · exact absurd h177 (nI_nlt fall_le (by have := ct_le (coreI th pr k (allI n)); omega))
                            · refine go_iconst C (pc := 180) (v := 1) (by decide) dL_isCoreSo_180 ?_
                              refine go_goto C (pc := 181) (tgt := 185) dL_isCoreSo_181 (by decide) ?_
                              refine go_istore3 C (pc := 185) dL_isCoreSo_185 ?_
                              refine go_iinc4 C (pc := 186) (v := 1) dL_isCoreSo_186 (by decide) ?_
                              refine go_goto C (pc := 189) (tgt := 53) dL_isCoreSo_189 (by decide) ?_
                              exact go_drop5 (go_lv (by rw [nI_1]) (ih (i + 1) _ (by omega) H52))
                      · exact absurd h134 (by decide)
  refine go_aload0 C (pc := 0) dL_isCoreSo_0 ?_
  refine go_iload1 C (pc := 1) dL_isCoreSo_1 ?_
  refine go_ciV1 C (pc := 2) obj_0 (q_core C.fl C.ok H _ hk) gL_isCoreSo_X7_core rfl rfl yok_X7_core ⟨rfl, rfl⟩ ⟨Nat.le_of_ble_eq_true rfl, Nat.le_of_ble_eq_true rfl⟩ (Nat.le_of_ble_eq_true rfl) ⟨Nat.zero_le _, Nat.zero_le _⟩ dL_isCoreSo_2 (fun r55 μ55 hc55 => ?_)
  obtain ⟨rfl, H55⟩ := hc55
  refine go_istore2 C (pc := 5) dL_isCoreSo_5 ?_
  refine go_iload1 C (pc := 6) dL_isCoreSo_6 ?_
  refine go_if_ne C (pc := 7) (tgt := 30) dL_isCoreSo_7 (by decide) (fun h7 => ?_) (fun h7 => ?_)
  · have hk0 : 0 < k := Nat.pos_of_ne_zero (fun e => h7 (by rw [e]; rfl))
    refine go_iload2 C (pc := 30) dL_isCoreSo_30 ?_
    refine go_aload0 C (pc := 31) dL_isCoreSo_31 ?_
    refine go_iload1 C (pc := 32) dL_isCoreSo_32 ?_
    refine go_iconst C (pc := 33) (v := 1) (by decide) dL_isCoreSo_33 ?_
    refine go_isub C (pc := 34) dL_isCoreSo_34 ?_
    refine go_top (y := nI (k - 1)) (by rw [show (1 : Int32) = nI 1 from rfl, pk_sub (by omega)]) ?_
    refine go_ciV1 C (pc := 35) obj_0 (q_core C.fl C.ok H55 _ (show k - 1 ≤ 15 by omega)) gL_isCoreSo_X7_core rfl rfl yok_X7_core ⟨rfl, rfl⟩ ⟨Nat.le_of_ble_eq_true rfl, Nat.le_of_ble_eq_true rfl⟩ (Nat.le_of_ble_eq_true rfl) ⟨Nat.zero_le _, Nat.zero_le _⟩ dL_isCoreSo_35 (fun r57 μ57 hc57 => ?_)
    obtain ⟨rfl, H57⟩ := hc57
    refine go_iconst C (pc := 38) (v := -1) (by decide) dL_isCoreSo_38 ?_
    refine go_ixor C (pc := 39) dL_isCoreSo_39 ?_
    refine go_iand C (pc := 40) dL_isCoreSo_40 ?_
    refine go_if_ne C (pc := 41) (tgt := 48) dL_isCoreSo_41 (by decide) (fun h41 => ?_) (fun h41 => ?_)
    · exact absurd (core_down hn hk0) h41
    · refine go_iconst C (pc := 44) (v := 1) (by decide) dL_isCoreSo_44 ?_
      refine go_goto C (pc := 45) (tgt := 49) dL_isCoreSo_45 (by decide) ?_
      refine go_istore3 C (pc := 49) dL_isCoreSo_49 ?_
      refine go_iconst C (pc := 50) (v := 0) (by decide) dL_isCoreSo_50 ?_
      refine go_istore4 C (pc := 51) dL_isCoreSo_51 ?_
      exact go_lv rfl (key n 0 _ (by omega) H57)
  · refine go_iload2 C (pc := 10) dL_isCoreSo_10 ?_
    refine go_iconst C (pc := 11) (v := 1) (by decide) dL_isCoreSo_11 ?_
    refine go_aload0 C (pc := 12) dL_isCoreSo_12 ?_
    refine go_ciV0 C (pc := 13) obj_0 (q_plantCount C.fl C.ok H55) gL_isCoreSo_X7_plantCount rfl rfl yok_X7_plantCount ⟨rfl, rfl⟩ ⟨Nat.le_of_ble_eq_true rfl, Nat.le_of_ble_eq_true rfl⟩ (Nat.le_of_ble_eq_true rfl) ⟨Nat.zero_le _, Nat.zero_le _⟩ dL_isCoreSo_13 (fun r59 μ59 hc59 => ?_)
    obtain ⟨rfl, H59⟩ := hc59
    refine go_ishl C (pc := 16) dL_isCoreSo_16 ?_
    refine go_iconst C (pc := 17) (v := 1) (by decide) dL_isCoreSo_17 ?_
    refine go_isub C (pc := 18) dL_isCoreSo_18 ?_
    refine go_icmp_ne C (pc := 19) (tgt := 26) dL_isCoreSo_19 (by decide) (fun h19 => ?_) (fun h19 => ?_)
    · exact absurd (show coreI th pr k (allI n) = allI n by rw [nI_inj3 (by omega) (by decide) (h7.trans (show (0 : Int32) = nI 0 from rfl)), core_00 hn]) h19
    · refine go_iconst C (pc := 22) (v := 1) (by decide) dL_isCoreSo_22 ?_
      refine go_goto C (pc := 23) (tgt := 49) dL_isCoreSo_23 (by decide) ?_
      refine go_istore3 C (pc := 49) dL_isCoreSo_49 ?_
      refine go_iconst C (pc := 50) (v := 0) (by decide) dL_isCoreSo_50 ?_
      refine go_istore4 C (pc := 51) dL_isCoreSo_51 ?_
      exact go_lv rfl (key n 0 _ (by omega) H59)

theorem yok_L_isPlantSo : yOK yL_isPlantSo 2 := by unfold yOK; decide +kernel
set_option maxRecDepth 20000 in
set_option maxHeartbeats 4000000 in
theorem c_L_isPlantSo {l : Launch} {D : va_G} {ad : Nat → Nat} {cI cL : ClassId} (hfl : l.flags = flags0) (hok : adOK ad) {μ : Mem} {n : Nat} {pr : Int32} {th : Nat → Int32} (H : Bs n pr th μ) (p0 : Nat) (hp : p0 < n) : CtI l D ad cI cL yL_isPlantSo wsL_isPlantSo (RM 10 185) [.ref (ad 0), .int (nI p0)] μ (fun (r : Int32) (μ' : Mem) => r = 1 ∧ Bs n pr th μ') := by
  refine ct_i (cc := cL_isPlantSo) (maxL := 7) (own := RL) .boolean hfl hok (by decide) rfl rfl rfl (Nat.le_of_ble_eq_true rfl) (fun p e s m below meth c C hr => ?_)
  refine go_lv (lv' := [some (.ref (ad 0)), some (.int (nI p0)), none, none, none, none, none]) rfl ?_
  have hn := H.T.1
  have key : ∀ d i μ1, n = i + d → Bs n pr th μ1 → Go p l e (headSpec wsL_isPlantSo (RM 10 185)).room s m ([.ref (ad 0), .int (nI p0)] : List Value).toArray below meth c 0 0 (MQ below (va_Qi (fun (r : Int32) (μ' : Mem) => r = 1 ∧ Bs n pr th μ') (fun μ' t => PreW D ad cI cL μ' t) (AW ad)) ([.ref (ad 0), .int (nI p0)] : List Value).toArray s 0 0 (AW ad)) (AW ad) D ad cI cL 7 76 [some (.ref (ad 0)), some (.int (nI p0)), some (.int (nI (coreN th pr n p0))), some (.int (nI (fb_ct (fun q => decide (plN th pr n q < plN th pr n p0)) i))), some (.int 1), some (.int (nI i)), none] [] (μ1) := by
    intro d
    induction d with
    | zero =>
      intro i μ1 hd H
      refine go_iload5 C (pc := 76) dL_isPlantSo_76 ?_
      refine go_aload0 C (pc := 78) dL_isPlantSo_78 ?_
      refine go_ciV0 C (pc := 79) obj_0 (q_plantCount C.fl C.ok H) gL_isPlantSo_X7_plantCount rfl rfl yok_X7_plantCount ⟨rfl, rfl⟩ ⟨Nat.le_of_ble_eq_true rfl, Nat.le_of_ble_eq_true rfl⟩ (Nat.le_of_ble_eq_true rfl) ⟨Nat.zero_le _, Nat.zero_le _⟩ dL_isPlantSo_79 (fun r1 μ1 hc1 => ?_)
      obtain ⟨rfl, H1⟩ := hc1
      refine go_icmp_ge C (pc := 82) (tgt := 230) dL_isPlantSo_82 (by decide) (fun h82 => ?_) (fun h82 => ?_)
      · refine go_iload4 C (pc := 230) dL_isPlantSo_230 ?_
        refine go_if_eq C (pc := 232) (tgt := 260) dL_isPlantSo_232 (by decide) (fun h232 => ?_) (fun h232 => ?_)
        · exact absurd h232 (by decide)
        · refine go_iload3 C (pc := 235) dL_isPlantSo_235 ?_
          refine go_aload0 C (pc := 236) dL_isPlantSo_236 ?_
          refine go_iload1 C (pc := 237) dL_isPlantSo_237 ?_
          refine go_ciV1 C (pc := 238) obj_0 (q_placeOf C.fl C.ok H1 _ hp) gL_isPlantSo_X7_placeOf rfl rfl yok_X7_placeOf ⟨rfl, rfl⟩ ⟨Nat.le_of_ble_eq_true rfl, Nat.le_of_ble_eq_true rfl⟩ (Nat.le_of_ble_eq_true rfl) ⟨Nat.zero_le _, Nat.zero_le _⟩ dL_isPlantSo_238 (fun r4 μ4 hc4 => ?_)
          obtain ⟨rfl, H4⟩ := hc4
          refine go_icmp_ne C (pc := 241) (tgt := 260) dL_isPlantSo_241 (by decide) (fun h241 => ?_) (fun h241 => ?_)
          · exact absurd (by rw [show i = n by omega, pl_count H.T hp]) h241
          · refine go_aload0 C (pc := 244) dL_isPlantSo_244 ?_
            refine go_iload1 C (pc := 245) dL_isPlantSo_245 ?_
            refine go_ciV1 C (pc := 246) obj_0 (q_colorOf C.fl C.ok H4 _ hp) gL_isPlantSo_X7_colorOf rfl rfl yok_X7_colorOf ⟨rfl, rfl⟩ ⟨Nat.le_of_ble_eq_true rfl, Nat.le_of_ble_eq_true rfl⟩ (Nat.le_of_ble_eq_true rfl) ⟨Nat.zero_le _, Nat.zero_le _⟩ dL_isPlantSo_246 (fun r6 μ6 hc6 => ?_)
            obtain ⟨rfl, H6⟩ := hc6
            refine go_aload0 C (pc := 249) dL_isPlantSo_249 ?_
            refine go_ciV0 C (pc := 250) obj_0 (q_colors C.fl C.ok H6) gL_isPlantSo_X7_colors rfl rfl yok_X7_colors ⟨rfl, rfl⟩ ⟨Nat.le_of_ble_eq_true rfl, Nat.le_of_ble_eq_true rfl⟩ (Nat.le_of_ble_eq_true rfl) ⟨Nat.zero_le _, Nat.zero_le _⟩ dL_isPlantSo_250 (fun r7 μ7 hc7 => ?_)
            obtain ⟨rfl, H7⟩ := hc7
            refine go_icmp_ge C (pc := 253) (tgt := 260) dL_isPlantSo_253 (by decide) (fun h253 => ?_) (fun h253 => ?_)
            · exact absurd h253 (nI_ge (colM_lt n hp) (by have := colM_le (th := th) (n := n) (pr := pr) n; omega))
            · refine go_iconst C (pc := 256) (v := 1) (by decide) dL_isPlantSo_256 ?_
              refine go_goto C (pc := 257) (tgt := 261) dL_isPlantSo_257 (by decide) ?_
              exact go_zret C hr dL_isPlantSo_261 (Or.inr rfl) ⟨rfl, H7⟩
      · exact absurd (show nI n ≤ nI i from nI_le (by omega) (by omega)) h82
    | succ d ih =>
      intro i μ1 hd H
      have hi : i < n := by omega
      have hsy : bt (th i) p0 = bt (th p0) i := H.T.2.2.2 i p0 (by omega) (by omega)
      have hl1 := (pl_is H.T hp).1
      have hl2 := (pl_is H.T hi).1
      refine go_iload5 C (pc := 76) dL_isPlantSo_76 ?_
      refine go_aload0 C (pc := 78) dL_isPlantSo_78 ?_
      refine go_ciV0 C (pc := 79) obj_0 (q_plantCount C.fl C.ok H) gL_isPlantSo_X7_plantCount rfl rfl yok_X7_plantCount ⟨rfl, rfl⟩ ⟨Nat.le_of_ble_eq_true rfl, Nat.le_of_ble_eq_true rfl⟩ (Nat.le_of_ble_eq_true rfl) ⟨Nat.zero_le _, Nat.zero_le _⟩ dL_isPlantSo_79 (fun r9 μ9 hc9 => ?_)
      obtain ⟨rfl, H9⟩ := hc9
      refine go_icmp_ge C (pc := 82) (tgt := 230) dL_isPlantSo_82 (by decide) (fun h82 => ?_) (fun h82 => ?_)
      · exact absurd h82 (nI_ge hi (by omega))
      · refine go_iload3 C (pc := 85) dL_isPlantSo_85 ?_
        refine go_aload0 C (pc := 86) dL_isPlantSo_86 ?_
        refine go_iload5 C (pc := 87) dL_isPlantSo_87 ?_
        refine go_ciV1 C (pc := 89) obj_0 (q_placeOf C.fl C.ok H9 _ hi) gL_isPlantSo_X7_placeOf rfl rfl yok_X7_placeOf ⟨rfl, rfl⟩ ⟨Nat.le_of_ble_eq_true rfl, Nat.le_of_ble_eq_true rfl⟩ (Nat.le_of_ble_eq_true rfl) ⟨Nat.zero_le _, Nat.zero_le _⟩ dL_isPlantSo_89 (fun r11 μ11 hc11 => ?_)
        obtain ⟨rfl, H11⟩ := hc11
        refine go_aload0 C (pc := 92) dL_isPlantSo_92 ?_
        refine go_iload1 C (pc := 93) dL_isPlantSo_93 ?_
        refine go_ciV1 C (pc := 94) obj_0 (q_placeOf C.fl C.ok H11 _ hp) gL_isPlantSo_X7_placeOf rfl rfl yok_X7_placeOf ⟨rfl, rfl⟩ ⟨Nat.le_of_ble_eq_true rfl, Nat.le_of_ble_eq_true rfl⟩ (Nat.le_of_ble_eq_true rfl) ⟨Nat.zero_le _, Nat.zero_le _⟩ dL_isPlantSo_94 (fun r12 μ12 hc12 => ?_)
        obtain ⟨rfl, H12⟩ := hc12
        refine go_icmp_ge C (pc := 97) (tgt := 104) dL_isPlantSo_97 (by decide) (fun h97 => ?_) (fun h97 => ?_)
        · refine go_iconst C (pc := 104) (v := 0) (by decide) dL_isPlantSo_104 ?_
          refine go_iadd C (pc := 105) dL_isPlantSo_105 ?_
          refine go_top (y := nI (fb_ct (fun q => decide (plN th pr n q < plN th pr n p0)) (i + 1))) (ctN_f (decide_eq_false (Nat.not_lt.mpr ((nI_leI (by omega) (by omega)).mp h97)))) ?_
          refine go_istore3 C (pc := 106) dL_isPlantSo_106 ?_
          refine go_aload0 C (pc := 107) dL_isPlantSo_107 ?_
          refine go_iload1 C (pc := 108) dL_isPlantSo_108 ?_
          refine go_ciV1 C (pc := 109) obj_0 (q_neighbors C.fl C.ok H12 _ hp) gL_isPlantSo_X7_neighbors rfl rfl yok_X7_neighbors ⟨rfl, rfl⟩ ⟨Nat.le_of_ble_eq_true rfl, Nat.le_of_ble_eq_true rfl⟩ (Nat.le_of_ble_eq_true rfl) ⟨Nat.zero_le _, Nat.zero_le _⟩ dL_isPlantSo_109 (fun r14 μ14 hc14 => ?_)
          obtain ⟨rfl, H14⟩ := hc14
          refine go_iload5 C (pc := 112) dL_isPlantSo_112 ?_
          refine go_ishr C (pc := 114) dL_isPlantSo_114 ?_
          refine go_iconst C (pc := 115) (v := 1) (by decide) dL_isPlantSo_115 ?_
          refine go_iand C (pc := 116) dL_isPlantSo_116 ?_
          refine go_top (y := b2i (bt (th p0) i)) (ask_b (by omega) (sm_row H14.T (by omega))) ?_
          refine go_iconst C (pc := 117) (v := 1) (by decide) dL_isPlantSo_117 ?_
          refine go_icmp_ne C (pc := 118) (tgt := 125) dL_isPlantSo_118 (by decide) (fun h118 => ?_) (fun h118 => ?_)
          · refine go_iconst C (pc := 125) (v := 0) (by decide) dL_isPlantSo_125 ?_
            refine go_istore6 C (pc := 126) dL_isPlantSo_126 ?_
            refine go_iload4 C (pc := 128) dL_isPlantSo_128 ?_
            refine go_if_eq C (pc := 130) (tgt := 221) dL_isPlantSo_130 (by decide) (fun h130 => ?_) (fun h130 => ?_)
            · exact absurd h130 (by decide)
            · refine go_iload6 C (pc := 133) dL_isPlantSo_133 ?_
              refine go_aload0 C (pc := 135) dL_isPlantSo_135 ?_
              refine go_iload5 C (pc := 136) dL_isPlantSo_136 ?_
              refine go_ciV1 C (pc := 138) obj_0 (q_neighbors C.fl C.ok H14 _ hi) gL_isPlantSo_X7_neighbors rfl rfl yok_X7_neighbors ⟨rfl, rfl⟩ ⟨Nat.le_of_ble_eq_true rfl, Nat.le_of_ble_eq_true rfl⟩ (Nat.le_of_ble_eq_true rfl) ⟨Nat.zero_le _, Nat.zero_le _⟩ dL_isPlantSo_138 (fun r17 μ17 hc17 => ?_)
              obtain ⟨rfl, H17⟩ := hc17
              refine go_iload1 C (pc := 141) dL_isPlantSo_141 ?_
              refine go_ishr C (pc := 142) dL_isPlantSo_142 ?_
              refine go_iconst C (pc := 143) (v := 1) (by decide) dL_isPlantSo_143 ?_
              refine go_iand C (pc := 144) dL_isPlantSo_144 ?_
              refine go_top (y := b2i (bt (th i) p0)) (ask_b (by omega) (sm_row H17.T (by omega))) ?_
              refine go_iconst C (pc := 145) (v := 1) (by decide) dL_isPlantSo_145 ?_
              refine go_icmp_ne C (pc := 146) (tgt := 153) dL_isPlantSo_146 (by decide) (fun h146 => ?_) (fun h146 => ?_)
              · refine go_iconst C (pc := 153) (v := 0) (by decide) dL_isPlantSo_153 ?_
                refine go_icmp_ne C (pc := 154) (tgt := 221) dL_isPlantSo_154 (by decide) (fun h154 => ?_) (fun h154 => ?_)
                · exact absurd rfl h154
                · refine go_iload6 C (pc := 157) dL_isPlantSo_157 ?_
                  refine go_if_eq C (pc := 159) (tgt := 186) dL_isPlantSo_159 (by decide) (fun h159 => ?_) (fun h159 => ?_)
                  · refine go_aload0 C (pc := 186) dL_isPlantSo_186 ?_
                    refine go_iload1 C (pc := 187) dL_isPlantSo_187 ?_
                    refine go_ciV1 C (pc := 188) obj_0 (q_isPropped C.fl C.ok H17 _ hp) gL_isPlantSo_X7_isPropped rfl rfl yok_X7_isPropped ⟨rfl, rfl⟩ ⟨Nat.le_of_ble_eq_true rfl, Nat.le_of_ble_eq_true rfl⟩ (Nat.le_of_ble_eq_true rfl) ⟨Nat.zero_le _, Nat.zero_le _⟩ dL_isPlantSo_188 (fun r21 μ21 hc21 => ?_)
                    obtain ⟨rfl, H21⟩ := hc21
                    refine go_if_eq C (pc := 191) (tgt := 217) dL_isPlantSo_191 (by decide) (fun h191 => ?_) (fun h191 => ?_)
                    · refine go_iconst C (pc := 217) (v := 1) (by decide) dL_isPlantSo_217 ?_
                      refine go_goto C (pc := 218) (tgt := 222) dL_isPlantSo_218 (by decide) ?_
                      refine go_istore4 C (pc := 222) dL_isPlantSo_222 ?_
                      refine go_iinc5 C (pc := 224) (v := 1) dL_isPlantSo_224 (by decide) ?_
                      refine go_goto C (pc := 227) (tgt := 76) dL_isPlantSo_227 (by decide) ?_
                      exact go_drop6 (go_lv (by rw [nI_1]) (ih (i + 1) _ (by omega) H21))
                    · refine go_aload0 C (pc := 194) dL_isPlantSo_194 ?_
                      refine go_iload5 C (pc := 195) dL_isPlantSo_195 ?_
                      refine go_ciV1 C (pc := 197) obj_0 (q_isPropped C.fl C.ok H21 _ hi) gL_isPlantSo_X7_isPropped rfl rfl yok_X7_isPropped ⟨rfl, rfl⟩ ⟨Nat.le_of_ble_eq_true rfl, Nat.le_of_ble_eq_true rfl⟩ (Nat.le_of_ble_eq_true rfl) ⟨Nat.zero_le _, Nat.zero_le _⟩ dL_isPlantSo_197 (fun r23 μ23 hc23 => ?_)
                      obtain ⟨rfl, H23⟩ := hc23
                      refine go_if_ne C (pc := 200) (tgt := 217) dL_isPlantSo_200 (by decide) (fun h200 => ?_) (fun h200 => ?_)
                      · refine go_iconst C (pc := 217) (v := 1) (by decide) dL_isPlantSo_217 ?_
                        refine go_goto C (pc := 218) (tgt := 222) dL_isPlantSo_218 (by decide) ?_
                        refine go_istore4 C (pc := 222) dL_isPlantSo_222 ?_
                        refine go_iinc5 C (pc := 224) (v := 1) dL_isPlantSo_224 (by decide) ?_
                        refine go_goto C (pc := 227) (tgt := 76) dL_isPlantSo_227 (by decide) ?_
                        exact go_drop6 (go_lv (by rw [nI_1]) (ih (i + 1) _ (by omega) H23))
                      · refine go_aload0 C (pc := 203) dL_isPlantSo_203 ?_
                        refine go_iload5 C (pc := 204) dL_isPlantSo_204 ?_
                        refine go_ciV1 C (pc := 206) obj_0 (q_placeOf C.fl C.ok H23 _ hi) gL_isPlantSo_X7_placeOf rfl rfl yok_X7_placeOf ⟨rfl, rfl⟩ ⟨Nat.le_of_ble_eq_true rfl, Nat.le_of_ble_eq_true rfl⟩ (Nat.le_of_ble_eq_true rfl) ⟨Nat.zero_le _, Nat.zero_le _⟩ dL_isPlantSo_206 (fun r25 μ25 hc25 => ?_)
                        obtain ⟨rfl, H25⟩ := hc25
                        refine go_aload0 C (pc := 209) dL_isPlantSo_209 ?_
                        refine go_iload1 C (pc := 210) dL_isPlantSo_210 ?_
                        refine go_ciV1 C (pc := 211) obj_0 (q_placeOf C.fl C.ok H25 _ hp) gL_isPlantSo_X7_placeOf rfl rfl yok_X7_placeOf ⟨rfl, rfl⟩ ⟨Nat.le_of_ble_eq_true rfl, Nat.le_of_ble_eq_true rfl⟩ (Nat.le_of_ble_eq_true rfl) ⟨Nat.zero_le _, Nat.zero_le _⟩ dL_isPlantSo_211 (fun r26 μ26 hc26 => ?_)
                        obtain ⟨rfl, H26⟩ := hc26
                        refine go_icmp_ge C (pc := 214) (tgt := 221) dL_isPlantSo_214 (by decide) (fun h214 => ?_) (fun h214 => ?_)
                        · exact absurd h214 (nI_ge (pl_prop H.T hp hi (bneg h191) (bpos h200)) (by omega))
                        · refine go_iconst C (pc := 217) (v := 1) (by decide) dL_isPlantSo_217 ?_
                          refine go_goto C (pc := 218) (tgt := 222) dL_isPlantSo_218 (by decide) ?_
                          refine go_istore4 C (pc := 222) dL_isPlantSo_222 ?_
                          refine go_iinc5 C (pc := 224) (v := 1) dL_isPlantSo_224 (by decide) ?_
                          refine go_goto C (pc := 227) (tgt := 76) dL_isPlantSo_227 (by decide) ?_
                          exact go_drop6 (go_lv (by rw [nI_1]) (ih (i + 1) _ (by omega) H26))
                  · exact absurd rfl h159
              · exact absurd (b1 h146) (by rw [hsy, bn1 h118]; decide)
          · refine go_iconst C (pc := 121) (v := 1) (by decide) dL_isPlantSo_121 ?_
            refine go_goto C (pc := 122) (tgt := 126) dL_isPlantSo_122 (by decide) ?_
            refine go_istore6 C (pc := 126) dL_isPlantSo_126 ?_
            refine go_iload4 C (pc := 128) dL_isPlantSo_128 ?_
            refine go_if_eq C (pc := 130) (tgt := 221) dL_isPlantSo_130 (by decide) (fun h130 => ?_) (fun h130 => ?_)
            · exact absurd h130 (by decide)
            · refine go_iload6 C (pc := 133) dL_isPlantSo_133 ?_
              refine go_aload0 C (pc := 135) dL_isPlantSo_135 ?_
              refine go_iload5 C (pc := 136) dL_isPlantSo_136 ?_
              refine go_ciV1 C (pc := 138) obj_0 (q_neighbors C.fl C.ok H14 _ hi) gL_isPlantSo_X7_neighbors rfl rfl yok_X7_neighbors ⟨rfl, rfl⟩ ⟨Nat.le_of_ble_eq_true rfl, Nat.le_of_ble_eq_true rfl⟩ (Nat.le_of_ble_eq_true rfl) ⟨Nat.zero_le _, Nat.zero_le _⟩ dL_isPlantSo_138 (fun r29 μ29 hc29 => ?_)
              obtain ⟨rfl, H29⟩ := hc29
              refine go_iload1 C (pc := 141) dL_isPlantSo_141 ?_
              refine go_ishr C (pc := 142) dL_isPlantSo_142 ?_
              refine go_iconst C (pc := 143) (v := 1) (by decide) dL_isPlantSo_143 ?_
              refine go_iand C (pc := 144) dL_isPlantSo_144 ?_
              refine go_top (y := b2i (bt (th i) p0)) (ask_b (by omega) (sm_row H29.T (by omega))) ?_
              refine go_iconst C (pc := 145) (v := 1) (by decide) dL_isPlantSo_145 ?_
              refine go_icmp_ne C (pc := 146) (tgt := 153) dL_isPlantSo_146 (by decide) (fun h146 => ?_) (fun h146 => ?_)
              · exact absurd (bn1 h146) (by rw [hsy, b1 h118]; decide)
              · refine go_iconst C (pc := 149) (v := 1) (by decide) dL_isPlantSo_149 ?_
                refine go_goto C (pc := 150) (tgt := 154) dL_isPlantSo_150 (by decide) ?_
                refine go_icmp_ne C (pc := 154) (tgt := 221) dL_isPlantSo_154 (by decide) (fun h154 => ?_) (fun h154 => ?_)
                · exact absurd rfl h154
                · refine go_iload6 C (pc := 157) dL_isPlantSo_157 ?_
                  refine go_if_eq C (pc := 159) (tgt := 186) dL_isPlantSo_159 (by decide) (fun h159 => ?_) (fun h159 => ?_)
                  · exact absurd h159 (by decide)
                  · refine go_aload0 C (pc := 162) dL_isPlantSo_162 ?_
                    refine go_iload1 C (pc := 163) dL_isPlantSo_163 ?_
                    refine go_ciV1 C (pc := 164) obj_0 (q_colorOf C.fl C.ok H29 _ hp) gL_isPlantSo_X7_colorOf rfl rfl yok_X7_colorOf ⟨rfl, rfl⟩ ⟨Nat.le_of_ble_eq_true rfl, Nat.le_of_ble_eq_true rfl⟩ (Nat.le_of_ble_eq_true rfl) ⟨Nat.zero_le _, Nat.zero_le _⟩ dL_isPlantSo_164 (fun r33 μ33 hc33 => ?_)
                    obtain ⟨rfl, H33⟩ := hc33
                    refine go_aload0 C (pc := 167) dL_isPlantSo_167 ?_
                    refine go_iload5 C (pc := 168) dL_isPlantSo_168 ?_
                    refine go_ciV1 C (pc := 170) obj_0 (q_colorOf C.fl C.ok H33 _ hi) gL_isPlantSo_X7_colorOf rfl rfl yok_X7_colorOf ⟨rfl, rfl⟩ ⟨Nat.le_of_ble_eq_true rfl, Nat.le_of_ble_eq_true rfl⟩ (Nat.le_of_ble_eq_true rfl) ⟨Nat.zero_le _, Nat.zero_le _⟩ dL_isPlantSo_170 (fun r34 μ34 hc34 => ?_)
                    obtain ⟨rfl, H34⟩ := hc34
                    refine go_icmp_eq C (pc := 173) (tgt := 221) dL_isPlantSo_173 (by decide) (fun h173 => ?_) (fun h173 => ?_)
                    · exact absurd (nI_inj3 (by have := colN_le th pr n p0; omega) (by have := colN_le th pr n i; omega) h173) (col_ne H.T hp hi (b1 h118))
                    · refine go_aload0 C (pc := 176) dL_isPlantSo_176 ?_
                      refine go_iload1 C (pc := 177) dL_isPlantSo_177 ?_
                      refine go_iload5 C (pc := 178) dL_isPlantSo_178 ?_
                      refine go_ciS3 C (pc := 180) (c_L_isThornSo C.fl C.ok H34 _ _ hp hi (b1 h118)) gL_isPlantSo_L_isThornSo rfl yok_L_isThornSo ⟨rfl, rfl⟩ ⟨Nat.le_of_ble_eq_true rfl, Nat.le_of_ble_eq_true rfl⟩ (Nat.le_of_ble_eq_true rfl) ⟨Nat.zero_le _, Nat.zero_le _⟩ dL_isPlantSo_180 (fun r36 μ36 hc36 => ?_)
                      obtain ⟨rfl, H36⟩ := hc36
                      refine go_if_eq C (pc := 183) (tgt := 221) dL_isPlantSo_183 (by decide) (fun h183 => ?_) (fun h183 => ?_)
                      · exact absurd h183 (by decide)
                      · refine go_aload0 C (pc := 186) dL_isPlantSo_186 ?_
                        refine go_iload1 C (pc := 187) dL_isPlantSo_187 ?_
                        refine go_ciV1 C (pc := 188) obj_0 (q_isPropped C.fl C.ok H36 _ hp) gL_isPlantSo_X7_isPropped rfl rfl yok_X7_isPropped ⟨rfl, rfl⟩ ⟨Nat.le_of_ble_eq_true rfl, Nat.le_of_ble_eq_true rfl⟩ (Nat.le_of_ble_eq_true rfl) ⟨Nat.zero_le _, Nat.zero_le _⟩ dL_isPlantSo_188 (fun r38 μ38 hc38 => ?_)
                        obtain ⟨rfl, H38⟩ := hc38
                        refine go_if_eq C (pc := 191) (tgt := 217) dL_isPlantSo_191 (by decide) (fun h191 => ?_) (fun h191 => ?_)
                        · refine go_iconst C (pc := 217) (v := 1) (by decide) dL_isPlantSo_217 ?_
                          refine go_goto C (pc := 218) (tgt := 222) dL_isPlantSo_218 (by decide) ?_
                          refine go_istore4 C (pc := 222) dL_isPlantSo_222 ?_
                          refine go_iinc5 C (pc := 224) (v := 1) dL_isPlantSo_224 (by decide) ?_
                          refine go_goto C (pc := 227) (tgt := 76) dL_isPlantSo_227 (by decide) ?_
                          exact go_drop6 (go_lv (by rw [nI_1]) (ih (i + 1) _ (by omega) H38))
                        · refine go_aload0 C (pc := 194) dL_isPlantSo_194 ?_
                          refine go_iload5 C (pc := 195) dL_isPlantSo_195 ?_
                          refine go_ciV1 C (pc := 197) obj_0 (q_isPropped C.fl C.ok H38 _ hi) gL_isPlantSo_X7_isPropped rfl rfl yok_X7_isPropped ⟨rfl, rfl⟩ ⟨Nat.le_of_ble_eq_true rfl, Nat.le_of_ble_eq_true rfl⟩ (Nat.le_of_ble_eq_true rfl) ⟨Nat.zero_le _, Nat.zero_le _⟩ dL_isPlantSo_197 (fun r40 μ40 hc40 => ?_)
                          obtain ⟨rfl, H40⟩ := hc40
                          refine go_if_ne C (pc := 200) (tgt := 217) dL_isPlantSo_200 (by decide) (fun h200 => ?_) (fun h200 => ?_)
                          · refine go_iconst C (pc := 217) (v := 1) (by decide) dL_isPlantSo_217 ?_
                            refine go_goto C (pc := 218) (tgt := 222) dL_isPlantSo_218 (by decide) ?_
                            refine go_istore4 C (pc := 222) dL_isPlantSo_222 ?_
                            refine go_iinc5 C (pc := 224) (v := 1) dL_isPlantSo_224 (by decide) ?_
                            refine go_goto C (pc := 227) (tgt := 76) dL_isPlantSo_227 (by decide) ?_
                            exact go_drop6 (go_lv (by rw [nI_1]) (ih (i + 1) _ (by omega) H40))
                          · refine go_aload0 C (pc := 203) dL_isPlantSo_203 ?_
                            refine go_iload5 C (pc := 204) dL_isPlantSo_204 ?_
                            refine go_ciV1 C (pc := 206) obj_0 (q_placeOf C.fl C.ok H40 _ hi) gL_isPlantSo_X7_placeOf rfl rfl yok_X7_placeOf ⟨rfl, rfl⟩ ⟨Nat.le_of_ble_eq_true rfl, Nat.le_of_ble_eq_true rfl⟩ (Nat.le_of_ble_eq_true rfl) ⟨Nat.zero_le _, Nat.zero_le _⟩ dL_isPlantSo_206 (fun r42 μ42 hc42 => ?_)
                            obtain ⟨rfl, H42⟩ := hc42
                            refine go_aload0 C (pc := 209) dL_isPlantSo_209 ?_
                            refine go_iload1 C (pc := 210) dL_isPlantSo_210 ?_
                            refine go_ciV1 C (pc := 211) obj_0 (q_placeOf C.fl C.ok H42 _ hp) gL_isPlantSo_X7_placeOf rfl rfl yok_X7_placeOf ⟨rfl, rfl⟩ ⟨Nat.le_of_ble_eq_true rfl, Nat.le_of_ble_eq_true rfl⟩ (Nat.le_of_ble_eq_true rfl) ⟨Nat.zero_le _, Nat.zero_le _⟩ dL_isPlantSo_211 (fun r43 μ43 hc43 => ?_)
                            obtain ⟨rfl, H43⟩ := hc43
                            refine go_icmp_ge C (pc := 214) (tgt := 221) dL_isPlantSo_214 (by decide) (fun h214 => ?_) (fun h214 => ?_)
                            · exact absurd h214 (nI_ge (pl_prop H.T hp hi (bneg h191) (bpos h200)) (by omega))
                            · refine go_iconst C (pc := 217) (v := 1) (by decide) dL_isPlantSo_217 ?_
                              refine go_goto C (pc := 218) (tgt := 222) dL_isPlantSo_218 (by decide) ?_
                              refine go_istore4 C (pc := 222) dL_isPlantSo_222 ?_
                              refine go_iinc5 C (pc := 224) (v := 1) dL_isPlantSo_224 (by decide) ?_
                              refine go_goto C (pc := 227) (tgt := 76) dL_isPlantSo_227 (by decide) ?_
                              exact go_drop6 (go_lv (by rw [nI_1]) (ih (i + 1) _ (by omega) H43))
        · refine go_iconst C (pc := 100) (v := 1) (by decide) dL_isPlantSo_100 ?_
          refine go_goto C (pc := 101) (tgt := 105) dL_isPlantSo_101 (by decide) ?_
          refine go_iadd C (pc := 105) dL_isPlantSo_105 ?_
          refine go_top (y := nI (fb_ct (fun q => decide (plN th pr n q < plN th pr n p0)) (i + 1))) (ctN_t (decide_eq_true (Nat.not_le.mp (fun q => h97 (nI_le q (by omega)))))) ?_
          refine go_istore3 C (pc := 106) dL_isPlantSo_106 ?_
          refine go_aload0 C (pc := 107) dL_isPlantSo_107 ?_
          refine go_iload1 C (pc := 108) dL_isPlantSo_108 ?_
          refine go_ciV1 C (pc := 109) obj_0 (q_neighbors C.fl C.ok H12 _ hp) gL_isPlantSo_X7_neighbors rfl rfl yok_X7_neighbors ⟨rfl, rfl⟩ ⟨Nat.le_of_ble_eq_true rfl, Nat.le_of_ble_eq_true rfl⟩ (Nat.le_of_ble_eq_true rfl) ⟨Nat.zero_le _, Nat.zero_le _⟩ dL_isPlantSo_109 (fun r45 μ45 hc45 => ?_)
          obtain ⟨rfl, H45⟩ := hc45
          refine go_iload5 C (pc := 112) dL_isPlantSo_112 ?_
          refine go_ishr C (pc := 114) dL_isPlantSo_114 ?_
          refine go_iconst C (pc := 115) (v := 1) (by decide) dL_isPlantSo_115 ?_
          refine go_iand C (pc := 116) dL_isPlantSo_116 ?_
          refine go_top (y := b2i (bt (th p0) i)) (ask_b (by omega) (sm_row H45.T (by omega))) ?_
          refine go_iconst C (pc := 117) (v := 1) (by decide) dL_isPlantSo_117 ?_
          refine go_icmp_ne C (pc := 118) (tgt := 125) dL_isPlantSo_118 (by decide) (fun h118 => ?_) (fun h118 => ?_)
          · refine go_iconst C (pc := 125) (v := 0) (by decide) dL_isPlantSo_125 ?_
            refine go_istore6 C (pc := 126) dL_isPlantSo_126 ?_
            refine go_iload4 C (pc := 128) dL_isPlantSo_128 ?_
            refine go_if_eq C (pc := 130) (tgt := 221) dL_isPlantSo_130 (by decide) (fun h130 => ?_) (fun h130 => ?_)
            · exact absurd h130 (by decide)
            · refine go_iload6 C (pc := 133) dL_isPlantSo_133 ?_
              refine go_aload0 C (pc := 135) dL_isPlantSo_135 ?_
              refine go_iload5 C (pc := 136) dL_isPlantSo_136 ?_
              refine go_ciV1 C (pc := 138) obj_0 (q_neighbors C.fl C.ok H45 _ hi) gL_isPlantSo_X7_neighbors rfl rfl yok_X7_neighbors ⟨rfl, rfl⟩ ⟨Nat.le_of_ble_eq_true rfl, Nat.le_of_ble_eq_true rfl⟩ (Nat.le_of_ble_eq_true rfl) ⟨Nat.zero_le _, Nat.zero_le _⟩ dL_isPlantSo_138 (fun r48 μ48 hc48 => ?_)
              obtain ⟨rfl, H48⟩ := hc48
              refine go_iload1 C (pc := 141) dL_isPlantSo_141 ?_
              refine go_ishr C (pc := 142) dL_isPlantSo_142 ?_
              refine go_iconst C (pc := 143) (v := 1) (by decide) dL_isPlantSo_143 ?_
              refine go_iand C (pc := 144) dL_isPlantSo_144 ?_
              refine go_top (y := b2i (bt (th i) p0)) (ask_b (by omega) (sm_row H48.T (by omega))) ?_
              refine go_iconst C (pc := 145) (v := 1) (by decide) dL_isPlantSo_145 ?_
              refine go_icmp_ne C (pc := 146) (tgt := 153) dL_isPlantSo_146 (by decide) (fun h146 => ?_) (fun h146 => ?_)
              · refine go_iconst C (pc := 153) (v := 0) (by decide) dL_isPlantSo_153 ?_
                refine go_icmp_ne C (pc := 154) (tgt := 221) dL_isPlantSo_154 (by decide) (fun h154 => ?_) (fun h154 => ?_)
                · exact absurd rfl h154
                · refine go_iload6 C (pc := 157) dL_isPlantSo_157 ?_
                  refine go_if_eq C (pc := 159) (tgt := 186) dL_isPlantSo_159 (by decide) (fun h159 => ?_) (fun h159 => ?_)
                  · refine go_aload0 C (pc := 186) dL_isPlantSo_186 ?_
                    refine go_iload1 C (pc := 187) dL_isPlantSo_187 ?_
                    refine go_ciV1 C (pc := 188) obj_0 (q_isPropped C.fl C.ok H48 _ hp) gL_isPlantSo_X7_isPropped rfl rfl yok_X7_isPropped ⟨rfl, rfl⟩ ⟨Nat.le_of_ble_eq_true rfl, Nat.le_of_ble_eq_true rfl⟩ (Nat.le_of_ble_eq_true rfl) ⟨Nat.zero_le _, Nat.zero_le _⟩ dL_isPlantSo_188 (fun r52 μ52 hc52 => ?_)
                    obtain ⟨rfl, H52⟩ := hc52
                    refine go_if_eq C (pc := 191) (tgt := 217) dL_isPlantSo_191 (by decide) (fun h191 => ?_) (fun h191 => ?_)
                    · refine go_iconst C (pc := 217) (v := 1) (by decide) dL_isPlantSo_217 ?_
                      refine go_goto C (pc := 218) (tgt := 222) dL_isPlantSo_218 (by decide) ?_
                      refine go_istore4 C (pc := 222) dL_isPlantSo_222 ?_
                      refine go_iinc5 C (pc := 224) (v := 1) dL_isPlantSo_224 (by decide) ?_
                      refine go_goto C (pc := 227) (tgt := 76) dL_isPlantSo_227 (by decide) ?_
                      exact go_drop6 (go_lv (by rw [nI_1]) (ih (i + 1) _ (by omega) H52))
                    · refine go_aload0 C (pc := 194) dL_isPlantSo_194 ?_
                      refine go_iload5 C (pc := 195) dL_isPlantSo_195 ?_
                      refine go_ciV1 C (pc := 197) obj_0 (q_isPropped C.fl C.ok H52 _ hi) gL_isPlantSo_X7_isPropped rfl rfl yok_X7_isPropped ⟨rfl, rfl⟩ ⟨Nat.le_of_ble_eq_true rfl, Nat.le_of_ble_eq_true rfl⟩ (Nat.le_of_ble_eq_true rfl) ⟨Nat.zero_le _, Nat.zero_le _⟩ dL_isPlantSo_197 (fun r54 μ54 hc54 => ?_)
                      obtain ⟨rfl, H54⟩ := hc54
                      refine go_if_ne C (pc := 200) (tgt := 217) dL_isPlantSo_200 (by decide) (fun h200 => ?_) (fun h200 => ?_)
                      · refine go_iconst C (pc := 217) (v := 1) (by decide) dL_isPlantSo_217 ?_
                        refine go_goto C (pc := 218) (tgt := 222) dL_isPlantSo_218 (by decide) ?_
                        refine go_istore4 C (pc := 222) dL_isPlantSo_222 ?_
                        refine go_iinc5 C (pc := 224) (v := 1) dL_isPlantSo_224 (by decide) ?_
                        refine go_goto C (pc := 227) (tgt := 76) dL_isPlantSo_227 (by decide) ?_
                        exact go_drop6 (go_lv (by rw [nI_1]) (ih (i + 1) _ (by omega) H54))
                      · refine go_aload0 C (pc := 203) dL_isPlantSo_203 ?_
                        refine go_iload5 C (pc := 204) dL_isPlantSo_204 ?_
                        refine go_ciV1 C (pc := 206) obj_0 (q_placeOf C.fl C.ok H54 _ hi) gL_isPlantSo_X7_placeOf rfl rfl yok_X7_placeOf ⟨rfl, rfl⟩ ⟨Nat.le_of_ble_eq_true rfl, Nat.le_of_ble_eq_true rfl⟩ (Nat.le_of_ble_eq_true rfl) ⟨Nat.zero_le _, Nat.zero_le _⟩ dL_isPlantSo_206 (fun r56 μ56 hc56 => ?_)
                        obtain ⟨rfl, H56⟩ := hc56
                        refine go_aload0 C (pc := 209) dL_isPlantSo_209 ?_
                        refine go_iload1 C (pc := 210) dL_isPlantSo_210 ?_
                        refine go_ciV1 C (pc := 211) obj_0 (q_placeOf C.fl C.ok H56 _ hp) gL_isPlantSo_X7_placeOf rfl rfl yok_X7_placeOf ⟨rfl, rfl⟩ ⟨Nat.le_of_ble_eq_true rfl, Nat.le_of_ble_eq_true rfl⟩ (Nat.le_of_ble_eq_true rfl) ⟨Nat.zero_le _, Nat.zero_le _⟩ dL_isPlantSo_211 (fun r57 μ57 hc57 => ?_)
                        obtain ⟨rfl, H57⟩ := hc57
                        refine go_icmp_ge C (pc := 214) (tgt := 221) dL_isPlantSo_214 (by decide) (fun h214 => ?_) (fun h214 => ?_)
                        · exact absurd h214 (nI_ge (pl_prop H.T hp hi (bneg h191) (bpos h200)) (by omega))
                        · refine go_iconst C (pc := 217) (v := 1) (by decide) dL_isPlantSo_217 ?_
                          refine go_goto C (pc := 218) (tgt := 222) dL_isPlantSo_218 (by decide) ?_
                          refine go_istore4 C (pc := 222) dL_isPlantSo_222 ?_
                          refine go_iinc5 C (pc := 224) (v := 1) dL_isPlantSo_224 (by decide) ?_
                          refine go_goto C (pc := 227) (tgt := 76) dL_isPlantSo_227 (by decide) ?_
                          exact go_drop6 (go_lv (by rw [nI_1]) (ih (i + 1) _ (by omega) H57))
                  · exact absurd rfl h159
              · exact absurd (b1 h146) (by rw [hsy, bn1 h118]; decide)
          · refine go_iconst C (pc := 121) (v := 1) (by decide) dL_isPlantSo_121 ?_
            refine go_goto C (pc := 122) (tgt := 126) dL_isPlantSo_122 (by decide) ?_
            refine go_istore6 C (pc := 126) dL_isPlantSo_126 ?_
            refine go_iload4 C (pc := 128) dL_isPlantSo_128 ?_
            refine go_if_eq C (pc := 130) (tgt := 221) dL_isPlantSo_130 (by decide) (fun h130 => ?_) (fun h130 => ?_)
            · exact absurd h130 (by decide)
            · refine go_iload6 C (pc := 133) dL_isPlantSo_133 ?_
              refine go_aload0 C (pc := 135) dL_isPlantSo_135 ?_
              refine go_iload5 C (pc := 136) dL_isPlantSo_136 ?_
              refine go_ciV1 C (pc := 138) obj_0 (q_neighbors C.fl C.ok H45 _ hi) gL_isPlantSo_X7_neighbors rfl rfl yok_X7_neighbors ⟨rfl, rfl⟩ ⟨Nat.le_of_ble_eq_true rfl, Nat.le_of_ble_eq_true rfl⟩ (Nat.le_of_ble_eq_true rfl) ⟨Nat.zero_le _, Nat.zero_le _⟩ dL_isPlantSo_138 (fun r60 μ60 hc60 => ?_)
              obtain ⟨rfl, H60⟩ := hc60
              refine go_iload1 C (pc := 141) dL_isPlantSo_141 ?_
              refine go_ishr C (pc := 142) dL_isPlantSo_142 ?_
              refine go_iconst C (pc := 143) (v := 1) (by decide) dL_isPlantSo_143 ?_
              refine go_iand C (pc := 144) dL_isPlantSo_144 ?_
              refine go_top (y := b2i (bt (th i) p0)) (ask_b (by omega) (sm_row H60.T (by omega))) ?_
              refine go_iconst C (pc := 145) (v := 1) (by decide) dL_isPlantSo_145 ?_
              refine go_icmp_ne C (pc := 146) (tgt := 153) dL_isPlantSo_146 (by decide) (fun h146 => ?_) (fun h146 => ?_)
              · exact absurd (bn1 h146) (by rw [hsy, b1 h118]; decide)
              · refine go_iconst C (pc := 149) (v := 1) (by decide) dL_isPlantSo_149 ?_
                refine go_goto C (pc := 150) (tgt := 154) dL_isPlantSo_150 (by decide) ?_
                refine go_icmp_ne C (pc := 154) (tgt := 221) dL_isPlantSo_154 (by decide) (fun h154 => ?_) (fun h154 => ?_)
                · exact absurd rfl h154
                · refine go_iload6 C (pc := 157) dL_isPlantSo_157 ?_
                  refine go_if_eq C (pc := 159) (tgt := 186) dL_isPlantSo_159 (by decide) (fun h159 => ?_) (fun h159 => ?_)
                  · exact absurd h159 (by decide)
                  · refine go_aload0 C (pc := 162) dL_isPlantSo_162 ?_
                    refine go_iload1 C (pc := 163) dL_isPlantSo_163 ?_
                    refine go_ciV1 C (pc := 164) obj_0 (q_colorOf C.fl C.ok H60 _ hp) gL_isPlantSo_X7_colorOf rfl rfl yok_X7_colorOf ⟨rfl, rfl⟩ ⟨Nat.le_of_ble_eq_true rfl, Nat.le_of_ble_eq_true rfl⟩ (Nat.le_of_ble_eq_true rfl) ⟨Nat.zero_le _, Nat.zero_le _⟩ dL_isPlantSo_164 (fun r64 μ64 hc64 => ?_)
                    obtain ⟨rfl, H64⟩ := hc64
                    refine go_aload0 C (pc := 167) dL_isPlantSo_167 ?_
                    refine go_iload5 C (pc := 168) dL_isPlantSo_168 ?_
                    refine go_ciV1 C (pc := 170) obj_0 (q_colorOf C.fl C.ok H64 _ hi) gL_isPlantSo_X7_colorOf rfl rfl yok_X7_colorOf ⟨rfl, rfl⟩ ⟨Nat.le_of_ble_eq_true rfl, Nat.le_of_ble_eq_true rfl⟩ (Nat.le_of_ble_eq_true rfl) ⟨Nat.zero_le _, Nat.zero_le _⟩ dL_isPlantSo_170 (fun r65 μ65 hc65 => ?_)
                    obtain ⟨rfl, H65⟩ := hc65
                    refine go_icmp_eq C (pc := 173) (tgt := 221) dL_isPlantSo_173 (by decide) (fun h173 => ?_) (fun h173 => ?_)
                    · exact absurd (nI_inj3 (by have := colN_le th pr n p0; omega) (by have := colN_le th pr n i; omega) h173) (col_ne H.T hp hi (b1 h118))
                    · refine go_aload0 C (pc := 176) dL_isPlantSo_176 ?_
                      refine go_iload1 C (pc := 177) dL_isPlantSo_177 ?_
                      refine go_iload5 C (pc := 178) dL_isPlantSo_178 ?_
                      refine go_ciS3 C (pc := 180) (c_L_isThornSo C.fl C.ok H65 _ _ hp hi (b1 h118)) gL_isPlantSo_L_isThornSo rfl yok_L_isThornSo ⟨rfl, rfl⟩ ⟨Nat.le_of_ble_eq_true rfl, Nat.le_of_ble_eq_true rfl⟩ (Nat.le_of_ble_eq_true rfl) ⟨Nat.zero_le _, Nat.zero_le _⟩ dL_isPlantSo_180 (fun r67 μ67 hc67 => ?_)
                      obtain ⟨rfl, H67⟩ := hc67
                      refine go_if_eq C (pc := 183) (tgt := 221) dL_isPlantSo_183 (by decide) (fun h183 => ?_) (fun h183 => ?_)
                      · exact absurd h183 (by decide)
                      · refine go_aload0 C (pc := 186) dL_isPlantSo_186 ?_
                        refine go_iload1 C (pc := 187) dL_isPlantSo_187 ?_
                        refine go_ciV1 C (pc := 188) obj_0 (q_isPropped C.fl C.ok H67 _ hp) gL_isPlantSo_X7_isPropped rfl rfl yok_X7_isPropped ⟨rfl, rfl⟩ ⟨Nat.le_of_ble_eq_true rfl, Nat.le_of_ble_eq_true rfl⟩ (Nat.le_of_ble_eq_true rfl) ⟨Nat.zero_le _, Nat.zero_le _⟩ dL_isPlantSo_188 (fun r69 μ69 hc69 => ?_)
                        obtain ⟨rfl, H69⟩ := hc69
                        refine go_if_eq C (pc := 191) (tgt := 217) dL_isPlantSo_191 (by decide) (fun h191 => ?_) (fun h191 => ?_)
                        · refine go_iconst C (pc := 217) (v := 1) (by decide) dL_isPlantSo_217 ?_
                          refine go_goto C (pc := 218) (tgt := 222) dL_isPlantSo_218 (by decide) ?_
                          refine go_istore4 C (pc := 222) dL_isPlantSo_222 ?_
                          refine go_iinc5 C (pc := 224) (v := 1) dL_isPlantSo_224 (by decide) ?_
                          refine go_goto C (pc := 227) (tgt := 76) dL_isPlantSo_227 (by decide) ?_
                          exact go_drop6 (go_lv (by rw [nI_1]) (ih (i + 1) _ (by omega) H69))
                        · refine go_aload0 C (pc := 194) dL_isPlantSo_194 ?_
                          refine go_iload5 C (pc := 195) dL_isPlantSo_195 ?_
                          refine go_ciV1 C (pc := 197) obj_0 (q_isPropped C.fl C.ok H69 _ hi) gL_isPlantSo_X7_isPropped rfl rfl yok_X7_isPropped ⟨rfl, rfl⟩ ⟨Nat.le_of_ble_eq_true rfl, Nat.le_of_ble_eq_true rfl⟩ (Nat.le_of_ble_eq_true rfl) ⟨Nat.zero_le _, Nat.zero_le _⟩ dL_isPlantSo_197 (fun r71 μ71 hc71 => ?_)
                          obtain ⟨rfl, H71⟩ := hc71
                          refine go_if_ne C (pc := 200) (tgt := 217) dL_isPlantSo_200 (by decide) (fun h200 => ?_) (fun h200 => ?_)
                          · refine go_iconst C (pc := 217) (v := 1) (by decide) dL_isPlantSo_217 ?_
                            refine go_goto C (pc := 218) (tgt := 222) dL_isPlantSo_218 (by decide) ?_
                            refine go_istore4 C (pc := 222) dL_isPlantSo_222 ?_
                            refine go_iinc5 C (pc := 224) (v := 1) dL_isPlantSo_224 (by decide) ?_
                            refine go_goto C (pc := 227) (tgt := 76) dL_isPlantSo_227 (by decide) ?_
                            exact go_drop6 (go_lv (by rw [nI_1]) (ih (i + 1) _ (by omega) H71))
                          · refine go_aload0 C (pc := 203) dL_isPlantSo_203 ?_
                            refine go_iload5 C (pc := 204) dL_isPlantSo_204 ?_
                            refine go_ciV1 C (pc := 206) obj_0 (q_placeOf C.fl C.ok H71 _ hi) gL_isPlantSo_X7_placeOf rfl rfl yok_X7_placeOf ⟨rfl, rfl⟩ ⟨Nat.le_of_ble_eq_true rfl, Nat.le_of_ble_eq_true rfl⟩ (Nat.le_of_ble_eq_true rfl) ⟨Nat.zero_le _, Nat.zero_le _⟩ dL_isPlantSo_206 (fun r73 μ73 hc73 => ?_)
                            obtain ⟨rfl, H73⟩ := hc73
                            refine go_aload0 C (pc := 209) dL_isPlantSo_209 ?_
                            refine go_iload1 C (pc := 210) dL_isPlantSo_210 ?_
                            refine go_ciV1 C (pc := 211) obj_0 (q_placeOf C.fl C.ok H73 _ hp) gL_isPlantSo_X7_placeOf rfl rfl yok_X7_placeOf ⟨rfl, rfl⟩ ⟨Nat.le_of_ble_eq_true rfl, Nat.le_of_ble_eq_true rfl⟩ (Nat.le_of_ble_eq_true rfl) ⟨Nat.zero_le _, Nat.zero_le _⟩ dL_isPlantSo_211 (fun r74 μ74 hc74 => ?_)
                            obtain ⟨rfl, H74⟩ := hc74
                            refine go_icmp_ge C (pc := 214) (tgt := 221) dL_isPlantSo_214 (by decide) (fun h214 => ?_) (fun h214 => ?_)
                            · exact absurd h214 (nI_ge (pl_prop H.T hp hi (bneg h191) (bpos h200)) (by omega))
                            · refine go_iconst C (pc := 217) (v := 1) (by decide) dL_isPlantSo_217 ?_
                              refine go_goto C (pc := 218) (tgt := 222) dL_isPlantSo_218 (by decide) ?_
                              refine go_istore4 C (pc := 222) dL_isPlantSo_222 ?_
                              refine go_iinc5 C (pc := 224) (v := 1) dL_isPlantSo_224 (by decide) ?_
                              refine go_goto C (pc := 227) (tgt := 76) dL_isPlantSo_227 (by decide) ?_
                              exact go_drop6 (go_lv (by rw [nI_1]) (ih (i + 1) _ (by omega) H74))
  refine go_aload0 C (pc := 0) dL_isPlantSo_0 ?_
  refine go_iload1 C (pc := 1) dL_isPlantSo_1 ?_
  refine go_ciV1 C (pc := 2) obj_0 (q_coreOf C.fl C.ok H _ hp) gL_isPlantSo_X7_coreOf rfl rfl yok_X7_coreOf ⟨rfl, rfl⟩ ⟨Nat.le_of_ble_eq_true rfl, Nat.le_of_ble_eq_true rfl⟩ (Nat.le_of_ble_eq_true rfl) ⟨Nat.zero_le _, Nat.zero_le _⟩ dL_isPlantSo_2 (fun r76 μ76 hc76 => ?_)
  obtain ⟨rfl, H76⟩ := hc76
  refine go_istore2 C (pc := 5) dL_isPlantSo_5 ?_
  refine go_iconst C (pc := 6) (v := 0) (by decide) dL_isPlantSo_6 ?_
  refine go_istore3 C (pc := 7) dL_isPlantSo_7 ?_
  refine go_aload0 C (pc := 8) dL_isPlantSo_8 ?_
  refine go_iload1 C (pc := 9) dL_isPlantSo_9 ?_
  refine go_ciV1 C (pc := 10) obj_0 (q_coreByRounds C.fl C.ok H76 _ hp) gL_isPlantSo_X7_coreByRounds rfl rfl yok_X7_coreByRounds ⟨rfl, rfl⟩ ⟨Nat.le_of_ble_eq_true rfl, Nat.le_of_ble_eq_true rfl⟩ (Nat.le_of_ble_eq_true rfl) ⟨Nat.zero_le _, Nat.zero_le _⟩ dL_isPlantSo_10 (fun r77 μ77 hc77 => ?_)
  obtain ⟨rfl, H77⟩ := hc77
  refine go_iload2 C (pc := 13) dL_isPlantSo_13 ?_
  refine go_icmp_ne C (pc := 14) (tgt := 70) dL_isPlantSo_14 (by decide) (fun h14 => ?_) (fun h14 => ?_)
  · exact absurd (rfl) h14
  · refine go_aload0 C (pc := 17) dL_isPlantSo_17 ?_
    refine go_iload1 C (pc := 18) dL_isPlantSo_18 ?_
    refine go_ciV1 C (pc := 19) obj_0 (q_isPropped C.fl C.ok H77 _ hp) gL_isPlantSo_X7_isPropped rfl rfl yok_X7_isPropped ⟨rfl, rfl⟩ ⟨Nat.le_of_ble_eq_true rfl, Nat.le_of_ble_eq_true rfl⟩ (Nat.le_of_ble_eq_true rfl) ⟨Nat.zero_le _, Nat.zero_le _⟩ dL_isPlantSo_19 (fun r79 μ79 hc79 => ?_)
    obtain ⟨rfl, H79⟩ := hc79
    refine go_if_eq C (pc := 22) (tgt := 34) dL_isPlantSo_22 (by decide) (fun h22 => ?_) (fun h22 => ?_)
    · refine go_iload2 C (pc := 34) dL_isPlantSo_34 ?_
      refine go_aload0 C (pc := 35) dL_isPlantSo_35 ?_
      refine go_iload1 C (pc := 36) dL_isPlantSo_36 ?_
      refine go_ciV1 C (pc := 37) obj_0 (q_neighbors C.fl C.ok H79 _ hp) gL_isPlantSo_X7_neighbors rfl rfl yok_X7_neighbors ⟨rfl, rfl⟩ ⟨Nat.le_of_ble_eq_true rfl, Nat.le_of_ble_eq_true rfl⟩ (Nat.le_of_ble_eq_true rfl) ⟨Nat.zero_le _, Nat.zero_le _⟩ dL_isPlantSo_37 (fun r81 μ81 hc81 => ?_)
      obtain ⟨rfl, H81⟩ := hc81
      refine go_ciS1 C (pc := 40) (c_L_bits C.fl C.ok _ _ (sm_row H81.T (by omega))) gL_isPlantSo_L_bits rfl yok_L_bits ⟨rfl, rfl⟩ ⟨Nat.le_of_ble_eq_true rfl, Nat.le_of_ble_eq_true rfl⟩ (Nat.le_of_ble_eq_true rfl) ⟨Nat.zero_le _, Nat.zero_le _⟩ dL_isPlantSo_40 (fun r82 μ82 hc82 => ?_)
      obtain ⟨rfl, hm82⟩ := hc82
      replace hm82 := hm82.symm
      subst hm82
      refine go_icmp_gt C (pc := 43) (tgt := 70) dL_isPlantSo_43 (by decide) (fun h43 => ?_) (fun h43 => ?_)
      · exact absurd h43 (nI_nlt (coreN_deg H.T hp (bpos h22)) (by have := ct_le (th p0); omega))
      · refine go_iload2 C (pc := 46) dL_isPlantSo_46 ?_
        refine go_aload0 C (pc := 47) dL_isPlantSo_47 ?_
        refine go_ciV0 C (pc := 48) obj_0 (q_greatestCore C.fl C.ok H81) gL_isPlantSo_X7_greatestCore rfl rfl yok_X7_greatestCore ⟨rfl, rfl⟩ ⟨Nat.le_of_ble_eq_true rfl, Nat.le_of_ble_eq_true rfl⟩ (Nat.le_of_ble_eq_true rfl) ⟨Nat.zero_le _, Nat.zero_le _⟩ dL_isPlantSo_48 (fun r84 μ84 hc84 => ?_)
        obtain ⟨rfl, H84⟩ := hc84
        refine go_icmp_gt C (pc := 51) (tgt := 70) dL_isPlantSo_51 (by decide) (fun h51 => ?_) (fun h51 => ?_)
        · exact absurd h51 (nI_nlt (coreN_free H.T hp (bpos h22)) (by have := freeN_le th pr n; omega))
        · refine go_aload0 C (pc := 54) dL_isPlantSo_54 ?_
          refine go_iload1 C (pc := 55) dL_isPlantSo_55 ?_
          refine go_ciV1 C (pc := 56) obj_0 (q_neighbors C.fl C.ok H84 _ hp) gL_isPlantSo_X7_neighbors rfl rfl yok_X7_neighbors ⟨rfl, rfl⟩ ⟨Nat.le_of_ble_eq_true rfl, Nat.le_of_ble_eq_true rfl⟩ (Nat.le_of_ble_eq_true rfl) ⟨Nat.zero_le _, Nat.zero_le _⟩ dL_isPlantSo_56 (fun r86 μ86 hc86 => ?_)
          obtain ⟨rfl, H86⟩ := hc86
          refine go_iload1 C (pc := 59) dL_isPlantSo_59 ?_
          refine go_ishr C (pc := 60) dL_isPlantSo_60 ?_
          refine go_iconst C (pc := 61) (v := 1) (by decide) dL_isPlantSo_61 ?_
          refine go_iand C (pc := 62) dL_isPlantSo_62 ?_
          refine go_top (y := b2i (bt (th p0) p0)) (ask_b (by omega) (sm_row H86.T (by omega))) ?_
          refine go_if_ne C (pc := 63) (tgt := 70) dL_isPlantSo_63 (by decide) (fun h63 => ?_) (fun h63 => ?_)
          · exact absurd (by rw [irr H.T (by omega)]; rfl) h63
          · refine go_iconst C (pc := 66) (v := 1) (by decide) dL_isPlantSo_66 ?_
            refine go_goto C (pc := 67) (tgt := 71) dL_isPlantSo_67 (by decide) ?_
            refine go_istore4 C (pc := 71) dL_isPlantSo_71 ?_
            refine go_iconst C (pc := 73) (v := 0) (by decide) dL_isPlantSo_73 ?_
            refine go_istore5 C (pc := 74) dL_isPlantSo_74 ?_
            exact go_lv rfl (key n 0 _ (by omega) H86)
    · refine go_iload2 C (pc := 25) dL_isPlantSo_25 ?_
      refine go_bipush C (pc := 26) (v := 15) (by decide) dL_isPlantSo_26 ?_
      refine go_icmp_ne C (pc := 28) (tgt := 70) dL_isPlantSo_28 (by decide) (fun h28 => ?_) (fun h28 => ?_)
      · exact absurd (by rw [core_prop H.T (bneg h22)]; rfl) h28
      · refine go_goto C (pc := 31) (tgt := 54) dL_isPlantSo_31 (by decide) ?_
        refine go_aload0 C (pc := 54) dL_isPlantSo_54 ?_
        refine go_iload1 C (pc := 55) dL_isPlantSo_55 ?_
        refine go_ciV1 C (pc := 56) obj_0 (q_neighbors C.fl C.ok H79 _ hp) gL_isPlantSo_X7_neighbors rfl rfl yok_X7_neighbors ⟨rfl, rfl⟩ ⟨Nat.le_of_ble_eq_true rfl, Nat.le_of_ble_eq_true rfl⟩ (Nat.le_of_ble_eq_true rfl) ⟨Nat.zero_le _, Nat.zero_le _⟩ dL_isPlantSo_56 (fun r89 μ89 hc89 => ?_)
        obtain ⟨rfl, H89⟩ := hc89
        refine go_iload1 C (pc := 59) dL_isPlantSo_59 ?_
        refine go_ishr C (pc := 60) dL_isPlantSo_60 ?_
        refine go_iconst C (pc := 61) (v := 1) (by decide) dL_isPlantSo_61 ?_
        refine go_iand C (pc := 62) dL_isPlantSo_62 ?_
        refine go_top (y := b2i (bt (th p0) p0)) (ask_b (by omega) (sm_row H89.T (by omega))) ?_
        refine go_if_ne C (pc := 63) (tgt := 70) dL_isPlantSo_63 (by decide) (fun h63 => ?_) (fun h63 => ?_)
        · exact absurd (by rw [irr H.T (by omega)]; rfl) h63
        · refine go_iconst C (pc := 66) (v := 1) (by decide) dL_isPlantSo_66 ?_
          refine go_goto C (pc := 67) (tgt := 71) dL_isPlantSo_67 (by decide) ?_
          refine go_istore4 C (pc := 71) dL_isPlantSo_71 ?_
          refine go_iconst C (pc := 73) (v := 0) (by decide) dL_isPlantSo_73 ?_
          refine go_istore5 C (pc := 74) dL_isPlantSo_74 ?_
          exact go_lv rfl (key n 0 _ (by omega) H89)

theorem yok_L_areTotalsSo : yOK yL_areTotalsSo 2 := by unfold yOK; decide +kernel
set_option maxRecDepth 20000 in
set_option maxHeartbeats 4000000 in
theorem c_L_areTotalsSo {l : Launch} {D : va_G} {ad : Nat → Nat} {cI cL : ClassId} (hfl : l.flags = flags0) (hok : adOK ad) {μ : Mem} {n : Nat} {pr : Int32} {th : Nat → Int32} (H : Bs n pr th μ) (k : Nat) (hk : k ≤ 15) (h0 : 0 < n) : CtI l D ad cI cL yL_areTotalsSo wsL_areTotalsSo (RM 8 157) [.ref (ad 0), .int (nI k)] μ (fun (r : Int32) (μ' : Mem) => r = 1 ∧ Bs n pr th μ') := by
  refine ct_i (cc := cL_areTotalsSo) (maxL := 7) (own := RL) .boolean hfl hok (by decide) rfl rfl rfl (Nat.le_of_ble_eq_true rfl) (fun p e s m below meth c C hr => ?_)
  refine go_lv (lv' := [some (.ref (ad 0)), some (.int (nI k)), none, none, none, none, none]) rfl ?_
  have hn := H.T.1
  have key : ∀ d i μ1, n = i + d → Bs n pr th μ1 → Go p l e (headSpec wsL_areTotalsSo (RM 8 157)).room s m ([.ref (ad 0), .int (nI k)] : List Value).toArray below meth c 0 0 (MQ below (va_Qi (fun (r : Int32) (μ' : Mem) => r = 1 ∧ Bs n pr th μ') (fun μ' t => PreW D ad cI cL μ' t) (AW ad)) ([.ref (ad 0), .int (nI k)] : List Value).toArray s 0 0 (AW ad)) (AW ad) D ad cI cL 7 10 [some (.ref (ad 0)), some (.int (nI k)), some (.int (nI (fb_sm (fun t => ct (th t)) i))), some (.int (nI (fb_ct (bt pr) i))), some (.int (nI (colM th pr n i))), some (.int (nI i)), none] [] (μ1) := by
    intro d
    induction d with
    | zero =>
      intro i μ1 hd H
      have hs := sumE_le (TV_0 H.T)
      obtain ⟨fl1, fl2, fl3⟩ := fl_n H.T h0
      refine go_iload5 C (pc := 10) dL_areTotalsSo_10 ?_
      refine go_aload0 C (pc := 12) dL_areTotalsSo_12 ?_
      refine go_ciV0 C (pc := 13) obj_0 (q_plantCount C.fl C.ok H) gL_areTotalsSo_X7_plantCount rfl rfl yok_X7_plantCount ⟨rfl, rfl⟩ ⟨Nat.le_of_ble_eq_true rfl, Nat.le_of_ble_eq_true rfl⟩ (Nat.le_of_ble_eq_true rfl) ⟨Nat.zero_le _, Nat.zero_le _⟩ dL_areTotalsSo_13 (fun r1 μ1 hc1 => ?_)
      obtain ⟨rfl, H1⟩ := hc1
      refine go_icmp_ge C (pc := 16) (tgt := 82) dL_areTotalsSo_16 (by decide) (fun h16 => ?_) (fun h16 => ?_)
      · refine go_lv (lv' := [some (.ref (ad 0)), some (.int (nI k)), some (.int (nI (sumE th))), some (.int (nI (fb_ct (bt pr) n))), some (.int (nI (colM th pr n n))), some (.int (nI n)), none]) (by rw [show i = n by omega, sumE_n H.T]) ?_
        refine go_iconst C (pc := 82) (v := 2) (by decide) dL_areTotalsSo_82 ?_
        refine go_aload0 C (pc := 83) dL_areTotalsSo_83 ?_
        refine go_ciV0 C (pc := 84) obj_0 (q_thornCount C.fl C.ok H1) gL_areTotalsSo_X7_thornCount rfl rfl yok_X7_thornCount ⟨rfl, rfl⟩ ⟨Nat.le_of_ble_eq_true rfl, Nat.le_of_ble_eq_true rfl⟩ (Nat.le_of_ble_eq_true rfl) ⟨Nat.zero_le _, Nat.zero_le _⟩ dL_areTotalsSo_84 (fun r3 μ3 hc3 => ?_)
        obtain ⟨rfl, H3⟩ := hc3
        refine go_imul C (pc := 87) dL_areTotalsSo_87 ?_
        refine go_top (y := nI (sumE th)) (by rw [show (2 : Int32) = nI 2 from by decide +kernel, pk_mul, sumE_2 H.T]) ?_
        refine go_iload2 C (pc := 88) dL_areTotalsSo_88 ?_
        refine go_icmp_ne C (pc := 89) (tgt := 164) dL_areTotalsSo_89 (by decide) (fun h89 => ?_) (fun h89 => ?_)
        · exact absurd (rfl) h89
        · refine go_aload0 C (pc := 92) dL_areTotalsSo_92 ?_
          refine go_ciV0 C (pc := 93) obj_0 (q_triangles C.fl C.ok H3) gL_areTotalsSo_X7_triangles rfl rfl yok_X7_triangles ⟨rfl, rfl⟩ ⟨Nat.le_of_ble_eq_true rfl, Nat.le_of_ble_eq_true rfl⟩ (Nat.le_of_ble_eq_true rfl) ⟨Nat.zero_le _, Nat.zero_le _⟩ dL_areTotalsSo_93 (fun r5 μ5 hc5 => ?_)
          obtain ⟨rfl, H5⟩ := hc5
          refine go_aload0 C (pc := 96) dL_areTotalsSo_96 ?_
          refine go_ciV0 C (pc := 97) obj_0 (q_trianglesBySupport C.fl C.ok H5) gL_areTotalsSo_X7_trianglesBySupport rfl rfl yok_X7_trianglesBySupport ⟨rfl, rfl⟩ ⟨Nat.le_of_ble_eq_true rfl, Nat.le_of_ble_eq_true rfl⟩ (Nat.le_of_ble_eq_true rfl) ⟨Nat.zero_le _, Nat.zero_le _⟩ dL_areTotalsSo_97 (fun r6 μ6 hc6 => ?_)
          obtain ⟨rfl, H6⟩ := hc6
          refine go_icmp_ne C (pc := 100) (tgt := 164) dL_areTotalsSo_100 (by decide) (fun h100 => ?_) (fun h100 => ?_)
          · exact absurd (rfl) h100
          · refine go_aload0 C (pc := 103) dL_areTotalsSo_103 ?_
            refine go_ciV0 C (pc := 104) obj_0 (q_colors C.fl C.ok H6) gL_areTotalsSo_X7_colors rfl rfl yok_X7_colors ⟨rfl, rfl⟩ ⟨Nat.le_of_ble_eq_true rfl, Nat.le_of_ble_eq_true rfl⟩ (Nat.le_of_ble_eq_true rfl) ⟨Nat.zero_le _, Nat.zero_le _⟩ dL_areTotalsSo_104 (fun r8 μ8 hc8 => ?_)
            obtain ⟨rfl, H8⟩ := hc8
            refine go_iload4 C (pc := 107) dL_areTotalsSo_107 ?_
            refine go_icmp_ne C (pc := 109) (tgt := 164) dL_areTotalsSo_109 (by decide) (fun h109 => ?_) (fun h109 => ?_)
            · exact absurd (rfl) h109
            · refine go_iload3 C (pc := 112) dL_areTotalsSo_112 ?_
              refine go_if_gt C (pc := 113) (tgt := 129) dL_areTotalsSo_113 (by decide) (fun h113 => ?_) (fun h113 => ?_)
              · refine go_aload0 C (pc := 129) dL_areTotalsSo_129 ?_
                refine go_iconst C (pc := 130) (v := 0) (by decide) dL_areTotalsSo_130 ?_
                refine go_top (y := nI 0) rfl ?_
                refine go_ciV1 C (pc := 131) obj_0 (q_trussSize C.fl C.ok H8 _ (Nat.zero_le _)) gL_areTotalsSo_X7_trussSize rfl rfl yok_X7_trussSize ⟨rfl, rfl⟩ ⟨Nat.le_of_ble_eq_true rfl, Nat.le_of_ble_eq_true rfl⟩ (Nat.le_of_ble_eq_true rfl) ⟨Nat.zero_le _, Nat.zero_le _⟩ dL_areTotalsSo_131 (fun r11 μ11 hc11 => ?_)
                obtain ⟨rfl, H11⟩ := hc11
                refine go_aload0 C (pc := 134) dL_areTotalsSo_134 ?_
                refine go_ciV0 C (pc := 135) obj_0 (q_thornCount C.fl C.ok H11) gL_areTotalsSo_X7_thornCount rfl rfl yok_X7_thornCount ⟨rfl, rfl⟩ ⟨Nat.le_of_ble_eq_true rfl, Nat.le_of_ble_eq_true rfl⟩ (Nat.le_of_ble_eq_true rfl) ⟨Nat.zero_le _, Nat.zero_le _⟩ dL_areTotalsSo_135 (fun r12 μ12 hc12 => ?_)
                obtain ⟨rfl, H12⟩ := hc12
                refine go_icmp_ne C (pc := 138) (tgt := 164) dL_areTotalsSo_138 (by decide) (fun h138 => ?_) (fun h138 => ?_)
                · exact absurd (by rw [trS_0 H.T]) h138
                · refine go_iload1 C (pc := 141) dL_areTotalsSo_141 ?_
                  refine go_if_eq C (pc := 142) (tgt := 160) dL_areTotalsSo_142 (by decide) (fun h142 => ?_) (fun h142 => ?_)
                  · refine go_iconst C (pc := 160) (v := 1) (by decide) dL_areTotalsSo_160 ?_
                    refine go_goto C (pc := 161) (tgt := 165) dL_areTotalsSo_161 (by decide) ?_
                    refine go_istore5 C (pc := 165) dL_areTotalsSo_165 ?_
                    refine go_aload0 C (pc := 167) dL_areTotalsSo_167 ?_
                    refine go_ciV0 C (pc := 168) obj_0 (q_plantCount C.fl C.ok H12) gL_areTotalsSo_X7_plantCount rfl rfl yok_X7_plantCount ⟨rfl, rfl⟩ ⟨Nat.le_of_ble_eq_true rfl, Nat.le_of_ble_eq_true rfl⟩ (Nat.le_of_ble_eq_true rfl) ⟨Nat.zero_le _, Nat.zero_le _⟩ dL_areTotalsSo_168 (fun r15 μ15 hc15 => ?_)
                    obtain ⟨rfl, H15⟩ := hc15
                    refine go_istore6 C (pc := 171) dL_areTotalsSo_171 ?_
                    refine go_iload5 C (pc := 173) dL_areTotalsSo_173 ?_
                    refine go_if_eq C (pc := 175) (tgt := 214) dL_areTotalsSo_175 (by decide) (fun h175 => ?_) (fun h175 => ?_)
                    · exact absurd h175 (by decide)
                    · refine go_aload0 C (pc := 178) dL_areTotalsSo_178 ?_
                      refine go_cfV0 C (pc := 179) obj_0 (q_averageNeighbors C.fl C.ok H15 (by omega)) gL_areTotalsSo_X7_averageNeighbors rfl rfl yok_X7_averageNeighbors ⟨rfl, rfl⟩ ⟨Nat.le_of_ble_eq_true rfl, Nat.le_of_ble_eq_true rfl⟩ (Nat.le_of_ble_eq_true rfl) ⟨Nat.zero_le _, Nat.zero_le _⟩ dL_areTotalsSo_179 (fun r17 μ17 hc17 => ?_)
                      obtain ⟨rfl, H17⟩ := hc17
                      refine go_iload6 C (pc := 182) dL_areTotalsSo_182 ?_
                      refine go_i2f C (pc := 184) dL_areTotalsSo_184 ?_
                      refine go_fmul C (pc := 185) dL_areTotalsSo_185 (fl1) ?_
                      refine go_iload2 C (pc := 186) dL_areTotalsSo_186 ?_
                      refine go_iconst C (pc := 187) (v := 1) (by decide) dL_areTotalsSo_187 ?_
                      refine go_isub C (pc := 188) dL_areTotalsSo_188 ?_
                      refine go_i2f C (pc := 189) dL_areTotalsSo_189 ?_
                      refine go_fcmp C (pc := 190) dL_areTotalsSo_190 ?_
                      refine go_top (y := 1) fl2 ?_
                      refine go_if_le C (pc := 191) (tgt := 214) dL_areTotalsSo_191 (by decide) (fun h191 => ?_) (fun h191 => ?_)
                      · exact absurd h191 (by decide)
                      · refine go_aload0 C (pc := 194) dL_areTotalsSo_194 ?_
                        refine go_cfV0 C (pc := 195) obj_0 (q_averageNeighbors C.fl C.ok H17 (by omega)) gL_areTotalsSo_X7_averageNeighbors rfl rfl yok_X7_averageNeighbors ⟨rfl, rfl⟩ ⟨Nat.le_of_ble_eq_true rfl, Nat.le_of_ble_eq_true rfl⟩ (Nat.le_of_ble_eq_true rfl) ⟨Nat.zero_le _, Nat.zero_le _⟩ dL_areTotalsSo_195 (fun r19 μ19 hc19 => ?_)
                        obtain ⟨rfl, H19⟩ := hc19
                        refine go_iload6 C (pc := 198) dL_areTotalsSo_198 ?_
                        refine go_i2f C (pc := 200) dL_areTotalsSo_200 ?_
                        refine go_fmul C (pc := 201) dL_areTotalsSo_201 (fl1) ?_
                        refine go_iload2 C (pc := 202) dL_areTotalsSo_202 ?_
                        refine go_iconst C (pc := 203) (v := 1) (by decide) dL_areTotalsSo_203 ?_
                        refine go_iadd C (pc := 204) dL_areTotalsSo_204 ?_
                        refine go_i2f C (pc := 205) dL_areTotalsSo_205 ?_
                        refine go_fcmp C (pc := 206) dL_areTotalsSo_206 ?_
                        refine go_top (y := -1) fl3 ?_
                        refine go_if_ge C (pc := 207) (tgt := 214) dL_areTotalsSo_207 (by decide) (fun h207 => ?_) (fun h207 => ?_)
                        · exact absurd h207 (by decide)
                        · refine go_iconst C (pc := 210) (v := 1) (by decide) dL_areTotalsSo_210 ?_
                          refine go_goto C (pc := 211) (tgt := 215) dL_areTotalsSo_211 (by decide) ?_
                          refine go_istore5 C (pc := 215) dL_areTotalsSo_215 ?_
                          refine go_iload5 C (pc := 217) dL_areTotalsSo_217 ?_
                          refine go_if_eq C (pc := 219) (tgt := 244) dL_areTotalsSo_219 (by decide) (fun h219 => ?_) (fun h219 => ?_)
                          · exact absurd h219 (by decide)
                          · refine go_iload3 C (pc := 222) dL_areTotalsSo_222 ?_
                            refine go_iload6 C (pc := 223) dL_areTotalsSo_223 ?_
                            refine go_icmp_eq C (pc := 225) (tgt := 240) dL_areTotalsSo_225 (by decide) (fun h225 => ?_) (fun h225 => ?_)
                            · refine go_iconst C (pc := 240) (v := 1) (by decide) dL_areTotalsSo_240 ?_
                              refine go_goto C (pc := 241) (tgt := 245) dL_areTotalsSo_241 (by decide) ?_
                              exact go_zret C hr dL_areTotalsSo_245 (Or.inr rfl) ⟨rfl, H19⟩
                            · refine go_aload0 C (pc := 228) dL_areTotalsSo_228 ?_
                              refine go_aload0 C (pc := 229) dL_areTotalsSo_229 ?_
                              refine go_iload1 C (pc := 230) dL_areTotalsSo_230 ?_
                              refine go_ciV1 C (pc := 231) obj_0 (q_bestProp C.fl C.ok H19 _ hk (pr_all H.T (fun e => h225 (by rw [e])))) gL_areTotalsSo_X7_bestProp rfl rfl yok_X7_bestProp ⟨rfl, rfl⟩ ⟨Nat.le_of_ble_eq_true rfl, Nat.le_of_ble_eq_true rfl⟩ (Nat.le_of_ble_eq_true rfl) ⟨Nat.zero_le _, Nat.zero_le _⟩ dL_areTotalsSo_231 (fun r23 μ23 hc23 => ?_)
                              obtain ⟨rfl, H23⟩ := hc23
                              refine go_ciV1 C (pc := 234) obj_0 (q_isPropped C.fl C.ok H23 _ (best_ok H.T (pr_all H.T (fun e => h225 (by rw [e])))).1) gL_areTotalsSo_X7_isPropped rfl rfl yok_X7_isPropped ⟨rfl, rfl⟩ ⟨Nat.le_of_ble_eq_true rfl, Nat.le_of_ble_eq_true rfl⟩ (Nat.le_of_ble_eq_true rfl) ⟨Nat.zero_le _, Nat.zero_le _⟩ dL_areTotalsSo_234 (fun r24 μ24 hc24 => ?_)
                              obtain ⟨rfl, H24⟩ := hc24
                              refine go_if_ne C (pc := 237) (tgt := 244) dL_areTotalsSo_237 (by decide) (fun h237 => ?_) (fun h237 => ?_)
                              · exact absurd (by rw [(best_ok H.T (pr_all H.T (fun e => h225 (by rw [e])))).2]; rfl) h237
                              · refine go_iconst C (pc := 240) (v := 1) (by decide) dL_areTotalsSo_240 ?_
                                refine go_goto C (pc := 241) (tgt := 245) dL_areTotalsSo_241 (by decide) ?_
                                exact go_zret C hr dL_areTotalsSo_245 (Or.inr rfl) ⟨rfl, H24⟩
                  · have hk0 : 0 < k := Nat.pos_of_ne_zero (fun e => h142 (by rw [e]; rfl))
                    refine go_aload0 C (pc := 145) dL_areTotalsSo_145 ?_
                    refine go_iload1 C (pc := 146) dL_areTotalsSo_146 ?_
                    refine go_ciV1 C (pc := 147) obj_0 (q_trussSize C.fl C.ok H12 _ hk) gL_areTotalsSo_X7_trussSize rfl rfl yok_X7_trussSize ⟨rfl, rfl⟩ ⟨Nat.le_of_ble_eq_true rfl, Nat.le_of_ble_eq_true rfl⟩ (Nat.le_of_ble_eq_true rfl) ⟨Nat.zero_le _, Nat.zero_le _⟩ dL_areTotalsSo_147 (fun r26 μ26 hc26 => ?_)
                    obtain ⟨rfl, H26⟩ := hc26
                    refine go_aload0 C (pc := 150) dL_areTotalsSo_150 ?_
                    refine go_iload1 C (pc := 151) dL_areTotalsSo_151 ?_
                    refine go_iconst C (pc := 152) (v := 1) (by decide) dL_areTotalsSo_152 ?_
                    refine go_isub C (pc := 153) dL_areTotalsSo_153 ?_
                    refine go_top (y := nI (k - 1)) (by rw [show (1 : Int32) = nI 1 from rfl, pk_sub (by omega)]) ?_
                    refine go_ciV1 C (pc := 154) obj_0 (q_trussSize C.fl C.ok H26 _ (show k - 1 ≤ 15 by omega)) gL_areTotalsSo_X7_trussSize rfl rfl yok_X7_trussSize ⟨rfl, rfl⟩ ⟨Nat.le_of_ble_eq_true rfl, Nat.le_of_ble_eq_true rfl⟩ (Nat.le_of_ble_eq_true rfl) ⟨Nat.zero_le _, Nat.zero_le _⟩ dL_areTotalsSo_154 (fun r27 μ27 hc27 => ?_)
                    obtain ⟨rfl, H27⟩ := hc27
                    refine go_icmp_gt C (pc := 157) (tgt := 164) dL_areTotalsSo_157 (by decide) (fun h157 => ?_) (fun h157 => ?_)
                    · exact absurd h157 (nI_nlt (Nat.div_le_div_right (trS_down H.T (show k - 1 ≤ k by omega))) (by have := sumE_le (trE_is (k := k - 1) H.T).1.1; omega))
                    · refine go_iconst C (pc := 160) (v := 1) (by decide) dL_areTotalsSo_160 ?_
                      refine go_goto C (pc := 161) (tgt := 165) dL_areTotalsSo_161 (by decide) ?_
                      refine go_istore5 C (pc := 165) dL_areTotalsSo_165 ?_
                      refine go_aload0 C (pc := 167) dL_areTotalsSo_167 ?_
                      refine go_ciV0 C (pc := 168) obj_0 (q_plantCount C.fl C.ok H27) gL_areTotalsSo_X7_plantCount rfl rfl yok_X7_plantCount ⟨rfl, rfl⟩ ⟨Nat.le_of_ble_eq_true rfl, Nat.le_of_ble_eq_true rfl⟩ (Nat.le_of_ble_eq_true rfl) ⟨Nat.zero_le _, Nat.zero_le _⟩ dL_areTotalsSo_168 (fun r29 μ29 hc29 => ?_)
                      obtain ⟨rfl, H29⟩ := hc29
                      refine go_istore6 C (pc := 171) dL_areTotalsSo_171 ?_
                      refine go_iload5 C (pc := 173) dL_areTotalsSo_173 ?_
                      refine go_if_eq C (pc := 175) (tgt := 214) dL_areTotalsSo_175 (by decide) (fun h175 => ?_) (fun h175 => ?_)
                      · exact absurd h175 (by decide)
                      · refine go_aload0 C (pc := 178) dL_areTotalsSo_178 ?_
                        refine go_cfV0 C (pc := 179) obj_0 (q_averageNeighbors C.fl C.ok H29 (by omega)) gL_areTotalsSo_X7_averageNeighbors rfl rfl yok_X7_averageNeighbors ⟨rfl, rfl⟩ ⟨Nat.le_of_ble_eq_true rfl, Nat.le_of_ble_eq_true rfl⟩ (Nat.le_of_ble_eq_true rfl) ⟨Nat.zero_le _, Nat.zero_le _⟩ dL_areTotalsSo_179 (fun r31 μ31 hc31 => ?_)
                        obtain ⟨rfl, H31⟩ := hc31
                        refine go_iload6 C (pc := 182) dL_areTotalsSo_182 ?_
                        refine go_i2f C (pc := 184) dL_areTotalsSo_184 ?_
                        refine go_fmul C (pc := 185) dL_areTotalsSo_185 (fl1) ?_
                        refine go_iload2 C (pc := 186) dL_areTotalsSo_186 ?_
                        refine go_iconst C (pc := 187) (v := 1) (by decide) dL_areTotalsSo_187 ?_
                        refine go_isub C (pc := 188) dL_areTotalsSo_188 ?_
                        refine go_i2f C (pc := 189) dL_areTotalsSo_189 ?_
                        refine go_fcmp C (pc := 190) dL_areTotalsSo_190 ?_
                        refine go_top (y := 1) fl2 ?_
                        refine go_if_le C (pc := 191) (tgt := 214) dL_areTotalsSo_191 (by decide) (fun h191 => ?_) (fun h191 => ?_)
                        · exact absurd h191 (by decide)
                        · refine go_aload0 C (pc := 194) dL_areTotalsSo_194 ?_
                          refine go_cfV0 C (pc := 195) obj_0 (q_averageNeighbors C.fl C.ok H31 (by omega)) gL_areTotalsSo_X7_averageNeighbors rfl rfl yok_X7_averageNeighbors ⟨rfl, rfl⟩ ⟨Nat.le_of_ble_eq_true rfl, Nat.le_of_ble_eq_true rfl⟩ (Nat.le_of_ble_eq_true rfl) ⟨Nat.zero_le _, Nat.zero_le _⟩ dL_areTotalsSo_195 (fun r33 μ33 hc33 => ?_)
                          obtain ⟨rfl, H33⟩ := hc33
                          refine go_iload6 C (pc := 198) dL_areTotalsSo_198 ?_
                          refine go_i2f C (pc := 200) dL_areTotalsSo_200 ?_
                          refine go_fmul C (pc := 201) dL_areTotalsSo_201 (fl1) ?_
                          refine go_iload2 C (pc := 202) dL_areTotalsSo_202 ?_
                          refine go_iconst C (pc := 203) (v := 1) (by decide) dL_areTotalsSo_203 ?_
                          refine go_iadd C (pc := 204) dL_areTotalsSo_204 ?_
                          refine go_i2f C (pc := 205) dL_areTotalsSo_205 ?_
                          refine go_fcmp C (pc := 206) dL_areTotalsSo_206 ?_
                          refine go_top (y := -1) fl3 ?_
                          refine go_if_ge C (pc := 207) (tgt := 214) dL_areTotalsSo_207 (by decide) (fun h207 => ?_) (fun h207 => ?_)
                          · exact absurd h207 (by decide)
                          · refine go_iconst C (pc := 210) (v := 1) (by decide) dL_areTotalsSo_210 ?_
                            refine go_goto C (pc := 211) (tgt := 215) dL_areTotalsSo_211 (by decide) ?_
                            refine go_istore5 C (pc := 215) dL_areTotalsSo_215 ?_
                            refine go_iload5 C (pc := 217) dL_areTotalsSo_217 ?_
                            refine go_if_eq C (pc := 219) (tgt := 244) dL_areTotalsSo_219 (by decide) (fun h219 => ?_) (fun h219 => ?_)
                            · exact absurd h219 (by decide)
                            · refine go_iload3 C (pc := 222) dL_areTotalsSo_222 ?_
                              refine go_iload6 C (pc := 223) dL_areTotalsSo_223 ?_
                              refine go_icmp_eq C (pc := 225) (tgt := 240) dL_areTotalsSo_225 (by decide) (fun h225 => ?_) (fun h225 => ?_)
                              · refine go_iconst C (pc := 240) (v := 1) (by decide) dL_areTotalsSo_240 ?_
                                refine go_goto C (pc := 241) (tgt := 245) dL_areTotalsSo_241 (by decide) ?_
                                exact go_zret C hr dL_areTotalsSo_245 (Or.inr rfl) ⟨rfl, H33⟩
                              · refine go_aload0 C (pc := 228) dL_areTotalsSo_228 ?_
                                refine go_aload0 C (pc := 229) dL_areTotalsSo_229 ?_
                                refine go_iload1 C (pc := 230) dL_areTotalsSo_230 ?_
                                refine go_ciV1 C (pc := 231) obj_0 (q_bestProp C.fl C.ok H33 _ hk (pr_all H.T (fun e => h225 (by rw [e])))) gL_areTotalsSo_X7_bestProp rfl rfl yok_X7_bestProp ⟨rfl, rfl⟩ ⟨Nat.le_of_ble_eq_true rfl, Nat.le_of_ble_eq_true rfl⟩ (Nat.le_of_ble_eq_true rfl) ⟨Nat.zero_le _, Nat.zero_le _⟩ dL_areTotalsSo_231 (fun r37 μ37 hc37 => ?_)
                                obtain ⟨rfl, H37⟩ := hc37
                                refine go_ciV1 C (pc := 234) obj_0 (q_isPropped C.fl C.ok H37 _ (best_ok H.T (pr_all H.T (fun e => h225 (by rw [e])))).1) gL_areTotalsSo_X7_isPropped rfl rfl yok_X7_isPropped ⟨rfl, rfl⟩ ⟨Nat.le_of_ble_eq_true rfl, Nat.le_of_ble_eq_true rfl⟩ (Nat.le_of_ble_eq_true rfl) ⟨Nat.zero_le _, Nat.zero_le _⟩ dL_areTotalsSo_234 (fun r38 μ38 hc38 => ?_)
                                obtain ⟨rfl, H38⟩ := hc38
                                refine go_if_ne C (pc := 237) (tgt := 244) dL_areTotalsSo_237 (by decide) (fun h237 => ?_) (fun h237 => ?_)
                                · exact absurd (by rw [(best_ok H.T (pr_all H.T (fun e => h225 (by rw [e])))).2]; rfl) h237
                                · refine go_iconst C (pc := 240) (v := 1) (by decide) dL_areTotalsSo_240 ?_
                                  refine go_goto C (pc := 241) (tgt := 245) dL_areTotalsSo_241 (by decide) ?_
                                  exact go_zret C hr dL_areTotalsSo_245 (Or.inr rfl) ⟨rfl, H38⟩
              · refine go_aload0 C (pc := 116) dL_areTotalsSo_116 ?_
                refine go_ciV0 C (pc := 117) obj_0 (q_colors C.fl C.ok H8) gL_areTotalsSo_X7_colors rfl rfl yok_X7_colors ⟨rfl, rfl⟩ ⟨Nat.le_of_ble_eq_true rfl, Nat.le_of_ble_eq_true rfl⟩ (Nat.le_of_ble_eq_true rfl) ⟨Nat.zero_le _, Nat.zero_le _⟩ dL_areTotalsSo_117 (fun r40 μ40 hc40 => ?_)
                obtain ⟨rfl, H40⟩ := hc40
                refine go_aload0 C (pc := 120) dL_areTotalsSo_120 ?_
                refine go_ciV0 C (pc := 121) obj_0 (q_greatestCore C.fl C.ok H40) gL_areTotalsSo_X7_greatestCore rfl rfl yok_X7_greatestCore ⟨rfl, rfl⟩ ⟨Nat.le_of_ble_eq_true rfl, Nat.le_of_ble_eq_true rfl⟩ (Nat.le_of_ble_eq_true rfl) ⟨Nat.zero_le _, Nat.zero_le _⟩ dL_areTotalsSo_121 (fun r41 μ41 hc41 => ?_)
                obtain ⟨rfl, H41⟩ := hc41
                refine go_iconst C (pc := 124) (v := 1) (by decide) dL_areTotalsSo_124 ?_
                refine go_iadd C (pc := 125) dL_areTotalsSo_125 ?_
                refine go_top (y := nI (freeN th pr n + 1)) (nI_1 _) ?_
                refine go_icmp_gt C (pc := 126) (tgt := 164) dL_areTotalsSo_126 (by decide) (fun h126 => ?_) (fun h126 => ?_)
                · exact absurd h126 (nI_nlt (col_bound H.T (pr_none H.T (Nat.eq_zero_of_not_pos (fun q => h113 (nI_lt (a := 0) q (by have := fb_ct_le (bt pr) n; omega)))))) (by have := freeN_le th pr n; omega))
                · refine go_aload0 C (pc := 129) dL_areTotalsSo_129 ?_
                  refine go_iconst C (pc := 130) (v := 0) (by decide) dL_areTotalsSo_130 ?_
                  refine go_top (y := nI 0) rfl ?_
                  refine go_ciV1 C (pc := 131) obj_0 (q_trussSize C.fl C.ok H41 _ (Nat.zero_le _)) gL_areTotalsSo_X7_trussSize rfl rfl yok_X7_trussSize ⟨rfl, rfl⟩ ⟨Nat.le_of_ble_eq_true rfl, Nat.le_of_ble_eq_true rfl⟩ (Nat.le_of_ble_eq_true rfl) ⟨Nat.zero_le _, Nat.zero_le _⟩ dL_areTotalsSo_131 (fun r43 μ43 hc43 => ?_)
                  obtain ⟨rfl, H43⟩ := hc43
                  refine go_aload0 C (pc := 134) dL_areTotalsSo_134 ?_
                  refine go_ciV0 C (pc := 135) obj_0 (q_thornCount C.fl C.ok H43) gL_areTotalsSo_X7_thornCount rfl rfl yok_X7_thornCount ⟨rfl, rfl⟩ ⟨Nat.le_of_ble_eq_true rfl, Nat.le_of_ble_eq_true rfl⟩ (Nat.le_of_ble_eq_true rfl) ⟨Nat.zero_le _, Nat.zero_le _⟩ dL_areTotalsSo_135 (fun r44 μ44 hc44 => ?_)
                  obtain ⟨rfl, H44⟩ := hc44
                  refine go_icmp_ne C (pc := 138) (tgt := 164) dL_areTotalsSo_138 (by decide) (fun h138 => ?_) (fun h138 => ?_)
                  · exact absurd (by rw [trS_0 H.T]) h138
                  · refine go_iload1 C (pc := 141) dL_areTotalsSo_141 ?_
                    refine go_if_eq C (pc := 142) (tgt := 160) dL_areTotalsSo_142 (by decide) (fun h142 => ?_) (fun h142 => ?_)
                    · refine go_iconst C (pc := 160) (v := 1) (by decide) dL_areTotalsSo_160 ?_
                      refine go_goto C (pc := 161) (tgt := 165) dL_areTotalsSo_161 (by decide) ?_
                      refine go_istore5 C (pc := 165) dL_areTotalsSo_165 ?_
                      refine go_aload0 C (pc := 167) dL_areTotalsSo_167 ?_
                      refine go_ciV0 C (pc := 168) obj_0 (q_plantCount C.fl C.ok H44) gL_areTotalsSo_X7_plantCount rfl rfl yok_X7_plantCount ⟨rfl, rfl⟩ ⟨Nat.le_of_ble_eq_true rfl, Nat.le_of_ble_eq_true rfl⟩ (Nat.le_of_ble_eq_true rfl) ⟨Nat.zero_le _, Nat.zero_le _⟩ dL_areTotalsSo_168 (fun r47 μ47 hc47 => ?_)
                      obtain ⟨rfl, H47⟩ := hc47
                      refine go_istore6 C (pc := 171) dL_areTotalsSo_171 ?_
                      refine go_iload5 C (pc := 173) dL_areTotalsSo_173 ?_
                      refine go_if_eq C (pc := 175) (tgt := 214) dL_areTotalsSo_175 (by decide) (fun h175 => ?_) (fun h175 => ?_)
                      · exact absurd h175 (by decide)
                      · refine go_aload0 C (pc := 178) dL_areTotalsSo_178 ?_
                        refine go_cfV0 C (pc := 179) obj_0 (q_averageNeighbors C.fl C.ok H47 (by omega)) gL_areTotalsSo_X7_averageNeighbors rfl rfl yok_X7_averageNeighbors ⟨rfl, rfl⟩ ⟨Nat.le_of_ble_eq_true rfl, Nat.le_of_ble_eq_true rfl⟩ (Nat.le_of_ble_eq_true rfl) ⟨Nat.zero_le _, Nat.zero_le _⟩ dL_areTotalsSo_179 (fun r49 μ49 hc49 => ?_)
                        obtain ⟨rfl, H49⟩ := hc49
                        refine go_iload6 C (pc := 182) dL_areTotalsSo_182 ?_
                        refine go_i2f C (pc := 184) dL_areTotalsSo_184 ?_
                        refine go_fmul C (pc := 185) dL_areTotalsSo_185 (fl1) ?_
                        refine go_iload2 C (pc := 186) dL_areTotalsSo_186 ?_
                        refine go_iconst C (pc := 187) (v := 1) (by decide) dL_areTotalsSo_187 ?_
                        refine go_isub C (pc := 188) dL_areTotalsSo_188 ?_
                        refine go_i2f C (pc := 189) dL_areTotalsSo_189 ?_
                        refine go_fcmp C (pc := 190) dL_areTotalsSo_190 ?_
                        refine go_top (y := 1) fl2 ?_
                        refine go_if_le C (pc := 191) (tgt := 214) dL_areTotalsSo_191 (by decide) (fun h191 => ?_) (fun h191 => ?_)
                        · exact absurd h191 (by decide)
                        · refine go_aload0 C (pc := 194) dL_areTotalsSo_194 ?_
                          refine go_cfV0 C (pc := 195) obj_0 (q_averageNeighbors C.fl C.ok H49 (by omega)) gL_areTotalsSo_X7_averageNeighbors rfl rfl yok_X7_averageNeighbors ⟨rfl, rfl⟩ ⟨Nat.le_of_ble_eq_true rfl, Nat.le_of_ble_eq_true rfl⟩ (Nat.le_of_ble_eq_true rfl) ⟨Nat.zero_le _, Nat.zero_le _⟩ dL_areTotalsSo_195 (fun r51 μ51 hc51 => ?_)
                          obtain ⟨rfl, H51⟩ := hc51
                          refine go_iload6 C (pc := 198) dL_areTotalsSo_198 ?_
                          refine go_i2f C (pc := 200) dL_areTotalsSo_200 ?_
                          refine go_fmul C (pc := 201) dL_areTotalsSo_201 (fl1) ?_
                          refine go_iload2 C (pc := 202) dL_areTotalsSo_202 ?_
                          refine go_iconst C (pc := 203) (v := 1) (by decide) dL_areTotalsSo_203 ?_
                          refine go_iadd C (pc := 204) dL_areTotalsSo_204 ?_
                          refine go_i2f C (pc := 205) dL_areTotalsSo_205 ?_
                          refine go_fcmp C (pc := 206) dL_areTotalsSo_206 ?_
                          refine go_top (y := -1) fl3 ?_
                          refine go_if_ge C (pc := 207) (tgt := 214) dL_areTotalsSo_207 (by decide) (fun h207 => ?_) (fun h207 => ?_)
                          · exact absurd h207 (by decide)
                          · refine go_iconst C (pc := 210) (v := 1) (by decide) dL_areTotalsSo_210 ?_
                            refine go_goto C (pc := 211) (tgt := 215) dL_areTotalsSo_211 (by decide) ?_
                            refine go_istore5 C (pc := 215) dL_areTotalsSo_215 ?_
                            refine go_iload5 C (pc := 217) dL_areTotalsSo_217 ?_
                            refine go_if_eq C (pc := 219) (tgt := 244) dL_areTotalsSo_219 (by decide) (fun h219 => ?_) (fun h219 => ?_)
                            · exact absurd h219 (by decide)
                            · refine go_iload3 C (pc := 222) dL_areTotalsSo_222 ?_
                              refine go_iload6 C (pc := 223) dL_areTotalsSo_223 ?_
                              refine go_icmp_eq C (pc := 225) (tgt := 240) dL_areTotalsSo_225 (by decide) (fun h225 => ?_) (fun h225 => ?_)
                              · refine go_iconst C (pc := 240) (v := 1) (by decide) dL_areTotalsSo_240 ?_
                                refine go_goto C (pc := 241) (tgt := 245) dL_areTotalsSo_241 (by decide) ?_
                                exact go_zret C hr dL_areTotalsSo_245 (Or.inr rfl) ⟨rfl, H51⟩
                              · refine go_aload0 C (pc := 228) dL_areTotalsSo_228 ?_
                                refine go_aload0 C (pc := 229) dL_areTotalsSo_229 ?_
                                refine go_iload1 C (pc := 230) dL_areTotalsSo_230 ?_
                                refine go_ciV1 C (pc := 231) obj_0 (q_bestProp C.fl C.ok H51 _ hk (pr_all H.T (fun e => h225 (by rw [e])))) gL_areTotalsSo_X7_bestProp rfl rfl yok_X7_bestProp ⟨rfl, rfl⟩ ⟨Nat.le_of_ble_eq_true rfl, Nat.le_of_ble_eq_true rfl⟩ (Nat.le_of_ble_eq_true rfl) ⟨Nat.zero_le _, Nat.zero_le _⟩ dL_areTotalsSo_231 (fun r55 μ55 hc55 => ?_)
                                obtain ⟨rfl, H55⟩ := hc55
                                refine go_ciV1 C (pc := 234) obj_0 (q_isPropped C.fl C.ok H55 _ (best_ok H.T (pr_all H.T (fun e => h225 (by rw [e])))).1) gL_areTotalsSo_X7_isPropped rfl rfl yok_X7_isPropped ⟨rfl, rfl⟩ ⟨Nat.le_of_ble_eq_true rfl, Nat.le_of_ble_eq_true rfl⟩ (Nat.le_of_ble_eq_true rfl) ⟨Nat.zero_le _, Nat.zero_le _⟩ dL_areTotalsSo_234 (fun r56 μ56 hc56 => ?_)
                                obtain ⟨rfl, H56⟩ := hc56
                                refine go_if_ne C (pc := 237) (tgt := 244) dL_areTotalsSo_237 (by decide) (fun h237 => ?_) (fun h237 => ?_)
                                · exact absurd (by rw [(best_ok H.T (pr_all H.T (fun e => h225 (by rw [e])))).2]; rfl) h237
                                · refine go_iconst C (pc := 240) (v := 1) (by decide) dL_areTotalsSo_240 ?_
                                  refine go_goto C (pc := 241) (tgt := 245) dL_areTotalsSo_241 (by decide) ?_
                                  exact go_zret C hr dL_areTotalsSo_245 (Or.inr rfl) ⟨rfl, H56⟩
                    · have hk0 : 0 < k := Nat.pos_of_ne_zero (fun e => h142 (by rw [e]; rfl))
                      refine go_aload0 C (pc := 145) dL_areTotalsSo_145 ?_
                      refine go_iload1 C (pc := 146) dL_areTotalsSo_146 ?_
                      refine go_ciV1 C (pc := 147) obj_0 (q_trussSize C.fl C.ok H44 _ hk) gL_areTotalsSo_X7_trussSize rfl rfl yok_X7_trussSize ⟨rfl, rfl⟩ ⟨Nat.le_of_ble_eq_true rfl, Nat.le_of_ble_eq_true rfl⟩ (Nat.le_of_ble_eq_true rfl) ⟨Nat.zero_le _, Nat.zero_le _⟩ dL_areTotalsSo_147 (fun r58 μ58 hc58 => ?_)
                      obtain ⟨rfl, H58⟩ := hc58
                      refine go_aload0 C (pc := 150) dL_areTotalsSo_150 ?_
                      refine go_iload1 C (pc := 151) dL_areTotalsSo_151 ?_
                      refine go_iconst C (pc := 152) (v := 1) (by decide) dL_areTotalsSo_152 ?_
                      refine go_isub C (pc := 153) dL_areTotalsSo_153 ?_
                      refine go_top (y := nI (k - 1)) (by rw [show (1 : Int32) = nI 1 from rfl, pk_sub (by omega)]) ?_
                      refine go_ciV1 C (pc := 154) obj_0 (q_trussSize C.fl C.ok H58 _ (show k - 1 ≤ 15 by omega)) gL_areTotalsSo_X7_trussSize rfl rfl yok_X7_trussSize ⟨rfl, rfl⟩ ⟨Nat.le_of_ble_eq_true rfl, Nat.le_of_ble_eq_true rfl⟩ (Nat.le_of_ble_eq_true rfl) ⟨Nat.zero_le _, Nat.zero_le _⟩ dL_areTotalsSo_154 (fun r59 μ59 hc59 => ?_)
                      obtain ⟨rfl, H59⟩ := hc59
                      refine go_icmp_gt C (pc := 157) (tgt := 164) dL_areTotalsSo_157 (by decide) (fun h157 => ?_) (fun h157 => ?_)
                      · exact absurd h157 (nI_nlt (Nat.div_le_div_right (trS_down H.T (show k - 1 ≤ k by omega))) (by have := sumE_le (trE_is (k := k - 1) H.T).1.1; omega))
                      · refine go_iconst C (pc := 160) (v := 1) (by decide) dL_areTotalsSo_160 ?_
                        refine go_goto C (pc := 161) (tgt := 165) dL_areTotalsSo_161 (by decide) ?_
                        refine go_istore5 C (pc := 165) dL_areTotalsSo_165 ?_
                        refine go_aload0 C (pc := 167) dL_areTotalsSo_167 ?_
                        refine go_ciV0 C (pc := 168) obj_0 (q_plantCount C.fl C.ok H59) gL_areTotalsSo_X7_plantCount rfl rfl yok_X7_plantCount ⟨rfl, rfl⟩ ⟨Nat.le_of_ble_eq_true rfl, Nat.le_of_ble_eq_true rfl⟩ (Nat.le_of_ble_eq_true rfl) ⟨Nat.zero_le _, Nat.zero_le _⟩ dL_areTotalsSo_168 (fun r61 μ61 hc61 => ?_)
                        obtain ⟨rfl, H61⟩ := hc61
                        refine go_istore6 C (pc := 171) dL_areTotalsSo_171 ?_
                        refine go_iload5 C (pc := 173) dL_areTotalsSo_173 ?_
                        refine go_if_eq C (pc := 175) (tgt := 214) dL_areTotalsSo_175 (by decide) (fun h175 => ?_) (fun h175 => ?_)
                        · exact absurd h175 (by decide)
                        · refine go_aload0 C (pc := 178) dL_areTotalsSo_178 ?_
                          refine go_cfV0 C (pc := 179) obj_0 (q_averageNeighbors C.fl C.ok H61 (by omega)) gL_areTotalsSo_X7_averageNeighbors rfl rfl yok_X7_averageNeighbors ⟨rfl, rfl⟩ ⟨Nat.le_of_ble_eq_true rfl, Nat.le_of_ble_eq_true rfl⟩ (Nat.le_of_ble_eq_true rfl) ⟨Nat.zero_le _, Nat.zero_le _⟩ dL_areTotalsSo_179 (fun r63 μ63 hc63 => ?_)
                          obtain ⟨rfl, H63⟩ := hc63
                          refine go_iload6 C (pc := 182) dL_areTotalsSo_182 ?_
                          refine go_i2f C (pc := 184) dL_areTotalsSo_184 ?_
                          refine go_fmul C (pc := 185) dL_areTotalsSo_185 (fl1) ?_
                          refine go_iload2 C (pc := 186) dL_areTotalsSo_186 ?_
                          refine go_iconst C (pc := 187) (v := 1) (by decide) dL_areTotalsSo_187 ?_
                          refine go_isub C (pc := 188) dL_areTotalsSo_188 ?_
                          refine go_i2f C (pc := 189) dL_areTotalsSo_189 ?_
                          refine go_fcmp C (pc := 190) dL_areTotalsSo_190 ?_
                          refine go_top (y := 1) fl2 ?_
                          refine go_if_le C (pc := 191) (tgt := 214) dL_areTotalsSo_191 (by decide) (fun h191 => ?_) (fun h191 => ?_)
                          · exact absurd h191 (by decide)
                          · refine go_aload0 C (pc := 194) dL_areTotalsSo_194 ?_
                            refine go_cfV0 C (pc := 195) obj_0 (q_averageNeighbors C.fl C.ok H63 (by omega)) gL_areTotalsSo_X7_averageNeighbors rfl rfl yok_X7_averageNeighbors ⟨rfl, rfl⟩ ⟨Nat.le_of_ble_eq_true rfl, Nat.le_of_ble_eq_true rfl⟩ (Nat.le_of_ble_eq_true rfl) ⟨Nat.zero_le _, Nat.zero_le _⟩ dL_areTotalsSo_195 (fun r65 μ65 hc65 => ?_)
                            obtain ⟨rfl, H65⟩ := hc65
                            refine go_iload6 C (pc := 198) dL_areTotalsSo_198 ?_
                            refine go_i2f C (pc := 200) dL_areTotalsSo_200 ?_
                            refine go_fmul C (pc := 201) dL_areTotalsSo_201 (fl1) ?_
                            refine go_iload2 C (pc := 202) dL_areTotalsSo_202 ?_
                            refine go_iconst C (pc := 203) (v := 1) (by decide) dL_areTotalsSo_203 ?_
                            refine go_iadd C (pc := 204) dL_areTotalsSo_204 ?_
                            refine go_i2f C (pc := 205) dL_areTotalsSo_205 ?_
                            refine go_fcmp C (pc := 206) dL_areTotalsSo_206 ?_
                            refine go_top (y := -1) fl3 ?_
                            refine go_if_ge C (pc := 207) (tgt := 214) dL_areTotalsSo_207 (by decide) (fun h207 => ?_) (fun h207 => ?_)
                            · exact absurd h207 (by decide)
                            · refine go_iconst C (pc := 210) (v := 1) (by decide) dL_areTotalsSo_210 ?_
                              refine go_goto C (pc := 211) (tgt := 215) dL_areTotalsSo_211 (by decide) ?_
                              refine go_istore5 C (pc := 215) dL_areTotalsSo_215 ?_
                              refine go_iload5 C (pc := 217) dL_areTotalsSo_217 ?_
                              refine go_if_eq C (pc := 219) (tgt := 244) dL_areTotalsSo_219 (by decide) (fun h219 => ?_) (fun h219 => ?_)
                              · exact absurd h219 (by decide)
                              · refine go_iload3 C (pc := 222) dL_areTotalsSo_222 ?_
                                refine go_iload6 C (pc := 223) dL_areTotalsSo_223 ?_
                                refine go_icmp_eq C (pc := 225) (tgt := 240) dL_areTotalsSo_225 (by decide) (fun h225 => ?_) (fun h225 => ?_)
                                · refine go_iconst C (pc := 240) (v := 1) (by decide) dL_areTotalsSo_240 ?_
                                  refine go_goto C (pc := 241) (tgt := 245) dL_areTotalsSo_241 (by decide) ?_
                                  exact go_zret C hr dL_areTotalsSo_245 (Or.inr rfl) ⟨rfl, H65⟩
                                · refine go_aload0 C (pc := 228) dL_areTotalsSo_228 ?_
                                  refine go_aload0 C (pc := 229) dL_areTotalsSo_229 ?_
                                  refine go_iload1 C (pc := 230) dL_areTotalsSo_230 ?_
                                  refine go_ciV1 C (pc := 231) obj_0 (q_bestProp C.fl C.ok H65 _ hk (pr_all H.T (fun e => h225 (by rw [e])))) gL_areTotalsSo_X7_bestProp rfl rfl yok_X7_bestProp ⟨rfl, rfl⟩ ⟨Nat.le_of_ble_eq_true rfl, Nat.le_of_ble_eq_true rfl⟩ (Nat.le_of_ble_eq_true rfl) ⟨Nat.zero_le _, Nat.zero_le _⟩ dL_areTotalsSo_231 (fun r69 μ69 hc69 => ?_)
                                  obtain ⟨rfl, H69⟩ := hc69
                                  refine go_ciV1 C (pc := 234) obj_0 (q_isPropped C.fl C.ok H69 _ (best_ok H.T (pr_all H.T (fun e => h225 (by rw [e])))).1) gL_areTotalsSo_X7_isPropped rfl rfl yok_X7_isPropped ⟨rfl, rfl⟩ ⟨Nat.le_of_ble_eq_true rfl, Nat.le_of_ble_eq_true rfl⟩ (Nat.le_of_ble_eq_true rfl) ⟨Nat.zero_le _, Nat.zero_le _⟩ dL_areTotalsSo_234 (fun r70 μ70 hc70 => ?_)
                                  obtain ⟨rfl, H70⟩ := hc70
                                  refine go_if_ne C (pc := 237) (tgt := 244) dL_areTotalsSo_237 (by decide) (fun h237 => ?_) (fun h237 => ?_)
                                  · exact absurd (by rw [(best_ok H.T (pr_all H.T (fun e => h225 (by rw [e])))).2]; rfl) h237
                                  · refine go_iconst C (pc := 240) (v := 1) (by decide) dL_areTotalsSo_240 ?_
                                    refine go_goto C (pc := 241) (tgt := 245) dL_areTotalsSo_241 (by decide) ?_
                                    exact go_zret C hr dL_areTotalsSo_245 (Or.inr rfl) ⟨rfl, H70⟩
      · exact absurd (show nI n ≤ nI i from nI_le (by omega) (by omega)) h16
    | succ d ih =>
      intro i μ1 hd H
      have hi : i < n := by omega
      have hcl := colN_le th pr n i
      have hcm := colM_le (th := th) (n := n) (pr := pr) i
      refine go_iload5 C (pc := 10) dL_areTotalsSo_10 ?_
      refine go_aload0 C (pc := 12) dL_areTotalsSo_12 ?_
      refine go_ciV0 C (pc := 13) obj_0 (q_plantCount C.fl C.ok H) gL_areTotalsSo_X7_plantCount rfl rfl yok_X7_plantCount ⟨rfl, rfl⟩ ⟨Nat.le_of_ble_eq_true rfl, Nat.le_of_ble_eq_true rfl⟩ (Nat.le_of_ble_eq_true rfl) ⟨Nat.zero_le _, Nat.zero_le _⟩ dL_areTotalsSo_13 (fun r72 μ72 hc72 => ?_)
      obtain ⟨rfl, H72⟩ := hc72
      refine go_icmp_ge C (pc := 16) (tgt := 82) dL_areTotalsSo_16 (by decide) (fun h16 => ?_) (fun h16 => ?_)
      · exact absurd h16 (nI_ge hi (by omega))
      · refine go_iload2 C (pc := 19) dL_areTotalsSo_19 ?_
        refine go_aload0 C (pc := 20) dL_areTotalsSo_20 ?_
        refine go_iload5 C (pc := 21) dL_areTotalsSo_21 ?_
        refine go_ciV1 C (pc := 23) obj_0 (q_neighbors C.fl C.ok H72 _ hi) gL_areTotalsSo_X7_neighbors rfl rfl yok_X7_neighbors ⟨rfl, rfl⟩ ⟨Nat.le_of_ble_eq_true rfl, Nat.le_of_ble_eq_true rfl⟩ (Nat.le_of_ble_eq_true rfl) ⟨Nat.zero_le _, Nat.zero_le _⟩ dL_areTotalsSo_23 (fun r74 μ74 hc74 => ?_)
        obtain ⟨rfl, H74⟩ := hc74
        refine go_ciS1 C (pc := 26) (c_L_bits C.fl C.ok _ _ (sm_row H74.T (by omega))) gL_areTotalsSo_L_bits rfl yok_L_bits ⟨rfl, rfl⟩ ⟨Nat.le_of_ble_eq_true rfl, Nat.le_of_ble_eq_true rfl⟩ (Nat.le_of_ble_eq_true rfl) ⟨Nat.zero_le _, Nat.zero_le _⟩ dL_areTotalsSo_26 (fun r75 μ75 hc75 => ?_)
        obtain ⟨rfl, hm75⟩ := hc75
        replace hm75 := hm75.symm
        subst hm75
        refine go_iadd C (pc := 29) dL_areTotalsSo_29 ?_
        refine go_top (y := nI (fb_sm (fun t => ct (th t)) (i + 1))) (by rw [nI_add]; rfl) ?_
        refine go_istore2 C (pc := 30) dL_areTotalsSo_30 ?_
        refine go_iload3 C (pc := 31) dL_areTotalsSo_31 ?_
        refine go_aload0 C (pc := 32) dL_areTotalsSo_32 ?_
        refine go_iload5 C (pc := 33) dL_areTotalsSo_33 ?_
        refine go_ciV1 C (pc := 35) obj_0 (q_isPropped C.fl C.ok H74 _ hi) gL_areTotalsSo_X7_isPropped rfl rfl yok_X7_isPropped ⟨rfl, rfl⟩ ⟨Nat.le_of_ble_eq_true rfl, Nat.le_of_ble_eq_true rfl⟩ (Nat.le_of_ble_eq_true rfl) ⟨Nat.zero_le _, Nat.zero_le _⟩ dL_areTotalsSo_35 (fun r76 μ76 hc76 => ?_)
        obtain ⟨rfl, H76⟩ := hc76
        refine go_if_eq C (pc := 38) (tgt := 45) dL_areTotalsSo_38 (by decide) (fun h38 => ?_) (fun h38 => ?_)
        · refine go_iconst C (pc := 45) (v := 0) (by decide) dL_areTotalsSo_45 ?_
          refine go_iadd C (pc := 46) dL_areTotalsSo_46 ?_
          refine go_top (y := nI (fb_ct (bt pr) (i + 1))) (ctN_f (bpos h38)) ?_
          refine go_istore3 C (pc := 47) dL_areTotalsSo_47 ?_
          refine go_aload0 C (pc := 48) dL_areTotalsSo_48 ?_
          refine go_iload5 C (pc := 49) dL_areTotalsSo_49 ?_
          refine go_ciV1 C (pc := 51) obj_0 (q_colorOf C.fl C.ok H76 _ hi) gL_areTotalsSo_X7_colorOf rfl rfl yok_X7_colorOf ⟨rfl, rfl⟩ ⟨Nat.le_of_ble_eq_true rfl, Nat.le_of_ble_eq_true rfl⟩ (Nat.le_of_ble_eq_true rfl) ⟨Nat.zero_le _, Nat.zero_le _⟩ dL_areTotalsSo_51 (fun r78 μ78 hc78 => ?_)
          obtain ⟨rfl, H78⟩ := hc78
          refine go_iconst C (pc := 54) (v := 1) (by decide) dL_areTotalsSo_54 ?_
          refine go_iadd C (pc := 55) dL_areTotalsSo_55 ?_
          refine go_top (y := nI (colN th pr n i + 1)) (nI_1 _) ?_
          refine go_iload4 C (pc := 56) dL_areTotalsSo_56 ?_
          refine go_icmp_le C (pc := 58) (tgt := 72) dL_areTotalsSo_58 (by decide) (fun h58 => ?_) (fun h58 => ?_)
          · refine go_iload4 C (pc := 72) dL_areTotalsSo_72 ?_
            refine go_istore4 C (pc := 74) dL_areTotalsSo_74 ?_
            refine go_iinc5 C (pc := 76) (v := 1) dL_areTotalsSo_76 (by decide) ?_
            refine go_goto C (pc := 79) (tgt := 10) dL_areTotalsSo_79 (by decide) ?_
            have hx : colM th pr n (i + 1) = colM th pr n i := if_neg (Nat.not_lt.mpr ((nI_leI (by omega) (by omega)).mp h58))
            exact go_lv (by rw [nI_1, hx]) (ih (i + 1) _ (by omega) H78)
          · refine go_aload0 C (pc := 61) dL_areTotalsSo_61 ?_
            refine go_iload5 C (pc := 62) dL_areTotalsSo_62 ?_
            refine go_ciV1 C (pc := 64) obj_0 (q_colorOf C.fl C.ok H78 _ hi) gL_areTotalsSo_X7_colorOf rfl rfl yok_X7_colorOf ⟨rfl, rfl⟩ ⟨Nat.le_of_ble_eq_true rfl, Nat.le_of_ble_eq_true rfl⟩ (Nat.le_of_ble_eq_true rfl) ⟨Nat.zero_le _, Nat.zero_le _⟩ dL_areTotalsSo_64 (fun r80 μ80 hc80 => ?_)
            obtain ⟨rfl, H80⟩ := hc80
            refine go_iconst C (pc := 67) (v := 1) (by decide) dL_areTotalsSo_67 ?_
            refine go_iadd C (pc := 68) dL_areTotalsSo_68 ?_
            refine go_top (y := nI (colN th pr n i + 1)) (nI_1 _) ?_
            refine go_goto C (pc := 69) (tgt := 74) dL_areTotalsSo_69 (by decide) ?_
            refine go_istore4 C (pc := 74) dL_areTotalsSo_74 ?_
            refine go_iinc5 C (pc := 76) (v := 1) dL_areTotalsSo_76 (by decide) ?_
            refine go_goto C (pc := 79) (tgt := 10) dL_areTotalsSo_79 (by decide) ?_
            have hx : colM th pr n (i + 1) = colN th pr n i + 1 := if_pos (Nat.not_le.mp (fun q => h58 (nI_le q (by omega))))
            exact go_lv (by rw [nI_1, hx]) (ih (i + 1) _ (by omega) H80)
        · refine go_iconst C (pc := 41) (v := 1) (by decide) dL_areTotalsSo_41 ?_
          refine go_goto C (pc := 42) (tgt := 46) dL_areTotalsSo_42 (by decide) ?_
          refine go_iadd C (pc := 46) dL_areTotalsSo_46 ?_
          refine go_top (y := nI (fb_ct (bt pr) (i + 1))) (ctN_t (bneg h38)) ?_
          refine go_istore3 C (pc := 47) dL_areTotalsSo_47 ?_
          refine go_aload0 C (pc := 48) dL_areTotalsSo_48 ?_
          refine go_iload5 C (pc := 49) dL_areTotalsSo_49 ?_
          refine go_ciV1 C (pc := 51) obj_0 (q_colorOf C.fl C.ok H76 _ hi) gL_areTotalsSo_X7_colorOf rfl rfl yok_X7_colorOf ⟨rfl, rfl⟩ ⟨Nat.le_of_ble_eq_true rfl, Nat.le_of_ble_eq_true rfl⟩ (Nat.le_of_ble_eq_true rfl) ⟨Nat.zero_le _, Nat.zero_le _⟩ dL_areTotalsSo_51 (fun r81 μ81 hc81 => ?_)
          obtain ⟨rfl, H81⟩ := hc81
          refine go_iconst C (pc := 54) (v := 1) (by decide) dL_areTotalsSo_54 ?_
          refine go_iadd C (pc := 55) dL_areTotalsSo_55 ?_
          refine go_top (y := nI (colN th pr n i + 1)) (nI_1 _) ?_
          refine go_iload4 C (pc := 56) dL_areTotalsSo_56 ?_
          refine go_icmp_le C (pc := 58) (tgt := 72) dL_areTotalsSo_58 (by decide) (fun h58 => ?_) (fun h58 => ?_)
          · refine go_iload4 C (pc := 72) dL_areTotalsSo_72 ?_
            refine go_istore4 C (pc := 74) dL_areTotalsSo_74 ?_
            refine go_iinc5 C (pc := 76) (v := 1) dL_areTotalsSo_76 (by decide) ?_
            refine go_goto C (pc := 79) (tgt := 10) dL_areTotalsSo_79 (by decide) ?_
            have hx : colM th pr n (i + 1) = colM th pr n i := if_neg (Nat.not_lt.mpr ((nI_leI (by omega) (by omega)).mp h58))
            exact go_lv (by rw [nI_1, hx]) (ih (i + 1) _ (by omega) H81)
          · refine go_aload0 C (pc := 61) dL_areTotalsSo_61 ?_
            refine go_iload5 C (pc := 62) dL_areTotalsSo_62 ?_
            refine go_ciV1 C (pc := 64) obj_0 (q_colorOf C.fl C.ok H81 _ hi) gL_areTotalsSo_X7_colorOf rfl rfl yok_X7_colorOf ⟨rfl, rfl⟩ ⟨Nat.le_of_ble_eq_true rfl, Nat.le_of_ble_eq_true rfl⟩ (Nat.le_of_ble_eq_true rfl) ⟨Nat.zero_le _, Nat.zero_le _⟩ dL_areTotalsSo_64 (fun r83 μ83 hc83 => ?_)
            obtain ⟨rfl, H83⟩ := hc83
            refine go_iconst C (pc := 67) (v := 1) (by decide) dL_areTotalsSo_67 ?_
            refine go_iadd C (pc := 68) dL_areTotalsSo_68 ?_
            refine go_top (y := nI (colN th pr n i + 1)) (nI_1 _) ?_
            refine go_goto C (pc := 69) (tgt := 74) dL_areTotalsSo_69 (by decide) ?_
            refine go_istore4 C (pc := 74) dL_areTotalsSo_74 ?_
            refine go_iinc5 C (pc := 76) (v := 1) dL_areTotalsSo_76 (by decide) ?_
            refine go_goto C (pc := 79) (tgt := 10) dL_areTotalsSo_79 (by decide) ?_
            have hx : colM th pr n (i + 1) = colN th pr n i + 1 := if_pos (Nat.not_le.mp (fun q => h58 (nI_le q (by omega))))
            exact go_lv (by rw [nI_1, hx]) (ih (i + 1) _ (by omega) H83)
  refine go_iconst C (pc := 0) (v := 0) (by decide) dL_areTotalsSo_0 ?_
  refine go_istore2 C (pc := 1) dL_areTotalsSo_1 ?_
  refine go_iconst C (pc := 2) (v := 0) (by decide) dL_areTotalsSo_2 ?_
  refine go_istore3 C (pc := 3) dL_areTotalsSo_3 ?_
  refine go_iconst C (pc := 4) (v := 0) (by decide) dL_areTotalsSo_4 ?_
  refine go_istore4 C (pc := 5) dL_areTotalsSo_5 ?_
  refine go_iconst C (pc := 7) (v := 0) (by decide) dL_areTotalsSo_7 ?_
  refine go_istore5 C (pc := 8) dL_areTotalsSo_8 ?_
  exact go_lv rfl (key n 0 _ (by omega) H)

