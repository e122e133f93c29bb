/-! ===== the law's words among the tables, by places ===== -/
def tbl (k : Nat) : List Cond := match k with
  | 0 => k2_sels lw_privs
  | 1 => tables_1_1
  | 2 => tables_1_2
  | 3 => tables_1_3
  | 4 => tables_1_4
  | _ => tables_1_5
theorem tbl_in : ∀ (k : Nat) (w : Cond), w ∈ tbl k → w ∈ lw_tbl := by
  intro k w h
  have ht : w ∈ tables_1_1 ∨ w ∈ tables_1_2 ∨ w ∈ tables_1_3 ∨ w ∈ tables_1_4 ∨ w ∈ tables_1_5 → w ∈ lw_tbl := by
    intro h
    refine List.mem_append_right _ ?_
    show w ∈ tables_1_1 ++ (tables_1_2 ++ (tables_1_3 ++ (tables_1_4 ++ tables_1_5)))
    rcases h with h | h | h | h | h
    · exact List.mem_append_left _ h
    · exact List.mem_append_right _ (List.mem_append_left _ h)
    · exact List.mem_append_right _ (List.mem_append_right _ (List.mem_append_left _ h))
    · exact List.mem_append_right _ (List.mem_append_right _ (List.mem_append_right _ (List.mem_append_left _ h)))
    · exact List.mem_append_right _ (List.mem_append_right _ (List.mem_append_right _ (List.mem_append_right _ h)))
  match k, h with
  | 0, h => exact List.mem_append_left _ h
  | 1, h => exact ht (Or.inl h)
  | 2, h => exact ht (Or.inr (Or.inl h))
  | 3, h => exact ht (Or.inr (Or.inr (Or.inl h)))
  | 4, h => exact ht (Or.inr (Or.inr (Or.inr (Or.inl h))))
  | _ + 5, h => exact ht (Or.inr (Or.inr (Or.inr (Or.inr h))))
theorem goodT {ws : List Cond} (ps : List (Nat × Nat)) (hp : ws = ps.filterMap (fun q => (tbl q.1)[q.2]?)) (h : ws.all goodWord = true) : GoodIn lw_tbl ws := by
  intro w hw
  have h1 := List.all_eq_true.mp h w hw
  rw [hp] at hw
  obtain ⟨q, -, hi⟩ := List.mem_filterMap.mp hw
  exact ⟨tbl_in q.1 w (List.mem_of_getElem? hi), good_of_word h1⟩
theorem inT {w : Cond} (k i : Nat) (h : (tbl k)[i]? = some w) : w ∈ lw_tbl := tbl_in k w (List.mem_of_getElem? h)

set_option maxRecDepth 20000 in
theorem lx_0 : ∀ w ∈ (vx_atS RX7 74 "java/lang/IllegalStateException" ["java/lang/RuntimeException", "java/lang/Exception"]).filter goodWord, w ∈ lw_tbl := by decide +kernel
set_option maxRecDepth 20000 in
theorem lx_1 : ∀ w ∈ (vx_atS RX7 248 "java/lang/IndexOutOfBoundsException" ["java/lang/RuntimeException", "java/lang/Exception"]).filter goodWord, w ∈ lw_tbl := by decide +kernel
set_option maxRecDepth 20000 in
theorem lx_2 : ∀ w ∈ (vx_atS RX7 129 "java/lang/IllegalArgumentException" ["java/lang/RuntimeException", "java/lang/Exception"]).filter goodWord, w ∈ lw_tbl := by decide +kernel
set_option maxRecDepth 20000 in
theorem lx_3 : ∀ w ∈ (nsAt RX7 219 "java/util/NoSuchElementException" ["java/lang/RuntimeException", "java/lang/Exception"]).filter goodWord, w ∈ lw_tbl := by decide +kernel
set_option maxRecDepth 20000 in
theorem ggL_law_X7_init : GoodIn lw_tbl wsX7_init := goodT [(1, 23), (1, 24), (1, 25), (1, 26), (1, 27), (1, 28), (1, 2), (1, 152), (1, 64), (1, 65), (1, 5), (1, 153), (1, 80), (1, 81), (1, 6), (1, 154), (1, 99), (1, 34), (1, 3), (1, 155), (1, 156), (1, 101), (1, 102), (1, 7), (1, 157), (1, 116), (1, 117), (1, 8), (1, 158), (1, 134), (1, 135), (1, 9), (1, 159), (1, 30), (1, 31), (1, 32), (1, 47), (1, 52), (1, 33), (1, 56), (1, 35), (1, 36), (1, 37), (1, 38), (1, 39), (1, 40), (1, 4), (1, 41), (1, 46), (1, 42), (1, 67), (1, 68), (1, 69), (1, 70), (1, 72), (1, 73), (1, 71), (1, 83), (1, 84), (1, 85), (1, 86), (1, 88), (1, 89), (1, 90), (1, 87), (1, 100), (1, 103), (1, 104), (1, 105), (1, 106), (1, 107), (1, 110), (1, 109), (1, 108), (1, 118), (1, 119), (1, 120), (1, 121), (1, 122), (1, 125), (1, 126), (1, 124), (1, 123), (1, 136), (1, 137), (1, 138), (1, 139), (1, 140), (1, 143), (1, 144), (1, 142), (1, 141), (1, 57), (1, 59), (1, 61), (1, 160), (1, 162), (1, 164), (1, 166), (1, 168), (1, 170), (1, 172), (1, 174), (1, 75), (1, 77), (1, 92), (1, 94), (1, 96), (1, 43), (1, 111), (1, 113), (1, 127), (1, 129), (1, 131), (1, 145), (1, 147), (1, 149)] (by decide +kernel) (by decide +kernel)
theorem gL_law_X7_init : GoodIn lw_tbl (wsX7_init) := ggL_law_X7_init
set_option maxRecDepth 20000 in
theorem ggL_law_X8_init : GoodIn lw_tbl wsX8_init := goodT [(4, 131), (4, 132), (1, 25), (1, 26), (1, 46), (4, 133), (4, 134), (4, 136), (4, 138), (4, 141), (4, 142), (4, 143), (4, 146), (4, 148), (4, 150), (4, 152), (4, 154), (4, 156), (4, 158), (4, 160), (4, 162), (4, 164), (4, 166), (4, 168), (4, 170)] (by decide +kernel) (by decide +kernel)
theorem gL_law_X8_init : GoodIn lw_tbl (wsX8_init) := ggL_law_X8_init
set_option maxRecDepth 20000 in
theorem ggL_law_L_plant : GoodIn lw_tbl wsL_plant := goodIn_ca (goodT [(2, 106), (2, 107), (2, 108), (2, 109), (2, 110), (1, 1), (2, 111), (2, 116), (1, 14), (1, 152), (1, 154), (2, 112), (2, 113), (2, 114), (1, 2), (2, 115), (1, 47), (2, 185), (2, 186), (2, 187), (1, 6), (2, 188), (1, 90), (1, 89), (1, 88), (2, 189), (2, 191), (0, 7), (2, 192), (2, 193), (1, 212), (1, 213), (1, 214), (1, 52), (1, 56), (1, 215), (1, 216), (1, 217), (1, 3), (1, 218), (1, 42), (1, 219), (1, 198), (1, 199), (1, 200), (2, 194), (2, 195), (2, 196), (2, 197), (2, 198), (1, 160), (1, 162), (1, 164), (1, 166), (1, 168), (1, 170), (1, 172), (1, 174), (1, 57), (1, 59), (1, 61), (1, 92), (1, 94), (1, 96), (1, 43)] (by decide +kernel) (by decide +kernel)) (goodIn_sub lx_0 (by decide +kernel))
theorem gL_law_L_plant : GoodIn lw_tbl (va_wsS RL 98 yL_plant wsL_plant) := goodIn_app (goodT [(2, 104), (2, 105), (1, 0)] (by decide +kernel) (by decide +kernel)) ggL_law_L_plant
set_option maxRecDepth 20000 in
theorem ggL_law_X8_plant : GoodIn lw_tbl wsX8_plant := goodT [(4, 180), (4, 140), (4, 133), (4, 181), (4, 183), (0, 27), (1, 10), (4, 184), (4, 185), (4, 187), (0, 28), (4, 188), (4, 135), (4, 134), (4, 146), (4, 148), (4, 150), (4, 152), (4, 154), (4, 156), (4, 158), (4, 160), (4, 162), (4, 164), (4, 166), (4, 168), (4, 170)] (by decide +kernel) (by decide +kernel)
theorem gL_law_X8_plant : GoodIn lw_tbl (wsV RL 103 RX8 yX8_plant wsX8_plant) := goodIn_app (goodT [(4, 177), (4, 178), (4, 179), (1, 10)] (by decide +kernel) (by decide +kernel)) ggL_law_X8_plant
set_option maxRecDepth 20000 in
theorem ggL_law_X8_thrown : GoodIn lw_tbl wsX8_thrown := goodT [(4, 176), (4, 140), (4, 146), (4, 148), (4, 150), (4, 152), (4, 154), (4, 156), (4, 158), (4, 160), (4, 162), (4, 164), (4, 166), (4, 168), (4, 170)] (by decide +kernel) (by decide +kernel)
theorem gL_law_X8_thrown : GoodIn lw_tbl (wsV RL 104 RX8 yX8_thrown wsX8_thrown) := goodIn_app (goodT [(4, 173), (4, 174), (4, 175), (1, 10)] (by decide +kernel) (by decide +kernel)) ggL_law_X8_thrown
set_option maxRecDepth 20000 in
theorem ggL_law_L_uproot : GoodIn lw_tbl wsL_uproot := goodIn_ca (goodT [(2, 201), (2, 202), (2, 203), (2, 204), (2, 205), (1, 1), (2, 206), (1, 154), (1, 152), (2, 207), (2, 209), (0, 8), (2, 210), (2, 212), (1, 15), (2, 211), (2, 18), (2, 19), (1, 2), (2, 20), (1, 47), (2, 185), (2, 186), (2, 187), (1, 6), (2, 188), (1, 90), (1, 89), (1, 88), (2, 189), (2, 191), (0, 7), (2, 192), (2, 193), (1, 212), (1, 213), (1, 214), (1, 52), (1, 56), (1, 215), (1, 216), (1, 217), (1, 3), (1, 218), (1, 42), (1, 219), (1, 198), (1, 199), (1, 200), (2, 228), (1, 233), (1, 234), (1, 235), (1, 237), (1, 238), (1, 239), (2, 0), (1, 16), (2, 1), (2, 2), (2, 3), (2, 4), (2, 229), (2, 230), (2, 231), (2, 232), (2, 17), (2, 233), (2, 234), (2, 235), (2, 55), (2, 56), (1, 160), (1, 162), (1, 164), (1, 166), (1, 168), (1, 170), (1, 172), (1, 174), (1, 57), (1, 59), (1, 61), (1, 92), (1, 94), (1, 96), (1, 43)] (by decide +kernel) (by decide +kernel)) (goodIn_sub lx_1 (by decide +kernel))
theorem gL_law_L_uproot : GoodIn lw_tbl (va_wsS RL 107 yL_uproot wsL_uproot) := goodIn_app (goodT [(2, 199), (2, 200), (1, 0)] (by decide +kernel) (by decide +kernel)) ggL_law_L_uproot
set_option maxRecDepth 20000 in
theorem ggL_law_X8_uproot : GoodIn lw_tbl wsX8_uproot := goodT [(4, 192), (4, 133), (4, 193), (4, 195), (0, 29), (1, 10), (4, 196), (4, 140), (4, 197), (4, 199), (0, 30), (4, 200), (4, 201), (4, 202), (4, 203), (4, 185), (4, 187), (0, 28), (4, 188), (4, 135), (4, 134), (4, 204), (4, 205), (4, 206), (4, 207), (4, 208), (4, 209), (4, 146), (4, 148), (4, 150), (4, 152), (4, 154), (4, 156), (4, 158), (4, 160), (4, 162), (4, 164), (4, 166), (4, 168), (4, 170)] (by decide +kernel) (by decide +kernel)
theorem gL_law_X8_uproot : GoodIn lw_tbl (wsV RL 110 RX8 yX8_uproot wsX8_uproot) := goodIn_app (goodT [(4, 189), (4, 190), (4, 191), (1, 10)] (by decide +kernel) (by decide +kernel)) ggL_law_X8_uproot
set_option maxRecDepth 20000 in
theorem ggL_law_L_bind : GoodIn lw_tbl wsL_bind := goodIn_ca (goodIn_ca (goodIn_ca (goodT [(2, 238), (2, 202), (2, 239), (2, 107), (3, 0), (3, 1), (3, 2), (1, 1), (3, 3), (2, 116), (1, 14), (1, 152), (1, 154), (3, 4), (3, 6), (0, 9), (3, 7), (3, 8), (1, 17), (2, 207), (2, 209), (0, 8), (2, 210), (2, 212), (1, 15), (2, 211), (2, 18), (2, 19), (1, 2), (2, 20), (1, 47), (2, 28), (2, 14), (2, 15), (2, 16), (1, 56), (2, 17), (1, 219), (1, 198), (1, 199), (1, 3), (1, 200), (1, 42), (2, 22), (2, 23), (2, 185), (2, 186), (2, 187), (1, 6), (2, 188), (1, 90), (1, 89), (1, 88), (2, 189), (2, 191), (0, 7), (2, 192), (2, 193), (1, 212), (1, 213), (1, 214), (1, 52), (1, 215), (1, 216), (1, 217), (1, 218), (3, 25), (3, 26), (3, 27), (3, 28), (2, 13), (2, 55), (2, 56), (2, 228), (1, 233), (1, 234), (1, 235), (1, 237), (1, 238), (1, 239), (2, 0), (1, 16), (2, 1), (2, 2), (2, 3), (2, 4), (1, 160), (1, 162), (1, 164), (1, 166), (1, 168), (1, 170), (1, 172), (1, 174), (1, 57), (1, 59), (1, 61), (1, 43), (1, 92), (1, 94), (1, 96)] (by decide +kernel) (by decide +kernel)) (goodIn_sub lx_0 (by decide +kernel))) (goodIn_sub lx_2 (by decide +kernel))) (goodIn_sub lx_1 (by decide +kernel))
theorem gL_law_L_bind : GoodIn lw_tbl (va_wsS RL 111 yL_bind wsL_bind) := goodIn_app (goodT [(2, 236), (2, 237), (1, 0)] (by decide +kernel) (by decide +kernel)) ggL_law_L_bind
set_option maxRecDepth 20000 in
theorem ggL_law_X8_bind : GoodIn lw_tbl wsX8_bind := goodT [(4, 213), (4, 214), (4, 216), (0, 31), (1, 10), (4, 217), (4, 140), (4, 197), (4, 199), (0, 30), (4, 200), (4, 133), (4, 201), (4, 202), (4, 203), (4, 218), (4, 220), (0, 32), (4, 221), (4, 222), (4, 223), (4, 224), (4, 181), (4, 183), (0, 27), (4, 184), (4, 185), (4, 187), (0, 28), (4, 188), (4, 135), (4, 134), (4, 225), (4, 227), (0, 33), (4, 228), (4, 204), (4, 205), (4, 206), (4, 146), (4, 148), (4, 150), (4, 152), (4, 154), (4, 156), (4, 158), (4, 160), (4, 162), (4, 164), (4, 166), (4, 168), (4, 170)] (by decide +kernel) (by decide +kernel)
theorem gL_law_X8_bind : GoodIn lw_tbl (wsV RL 114 RX8 yX8_bind wsX8_bind) := goodIn_app (goodT [(4, 210), (4, 211), (4, 212), (1, 10)] (by decide +kernel) (by decide +kernel)) ggL_law_X8_bind
set_option maxRecDepth 20000 in
theorem ggL_law_L_cut : GoodIn lw_tbl wsL_cut := goodIn_ca (goodIn_ca (goodIn_ca (goodT [(3, 31), (2, 202), (2, 239), (2, 107), (3, 32), (3, 33), (3, 34), (1, 1), (3, 35), (2, 116), (1, 14), (1, 152), (1, 154), (3, 4), (3, 6), (0, 9), (3, 7), (3, 8), (1, 17), (2, 207), (2, 209), (0, 8), (2, 210), (2, 212), (1, 15), (2, 211), (2, 18), (2, 19), (1, 2), (2, 20), (1, 47), (2, 28), (2, 14), (2, 15), (2, 16), (1, 56), (2, 17), (1, 219), (1, 198), (1, 199), (1, 3), (1, 200), (1, 42), (2, 22), (2, 23), (2, 185), (2, 186), (2, 187), (1, 6), (2, 188), (1, 90), (1, 89), (1, 88), (2, 189), (2, 191), (0, 7), (2, 192), (2, 193), (1, 212), (1, 213), (1, 214), (1, 52), (1, 215), (1, 216), (1, 217), (1, 218), (3, 37), (3, 38), (3, 39), (3, 40), (2, 13), (2, 55), (2, 56), (2, 228), (1, 233), (1, 234), (1, 235), (1, 237), (1, 238), (1, 239), (2, 0), (1, 16), (2, 1), (2, 2), (2, 3), (2, 4), (1, 160), (1, 162), (1, 164), (1, 166), (1, 168), (1, 170), (1, 172), (1, 174), (1, 57), (1, 59), (1, 61), (1, 43), (1, 92), (1, 94), (1, 96)] (by decide +kernel) (by decide +kernel)) (goodIn_sub lx_0 (by decide +kernel))) (goodIn_sub lx_2 (by decide +kernel))) (goodIn_sub lx_1 (by decide +kernel))
theorem gL_law_L_cut : GoodIn lw_tbl (va_wsS RL 115 yL_cut wsL_cut) := goodIn_app (goodT [(3, 29), (3, 30), (1, 0)] (by decide +kernel) (by decide +kernel)) ggL_law_L_cut
set_option maxRecDepth 20000 in
theorem ggL_law_X8_cut : GoodIn lw_tbl wsX8_cut := goodT [(4, 232), (4, 214), (4, 216), (0, 31), (1, 10), (4, 217), (4, 140), (4, 197), (4, 199), (0, 30), (4, 200), (4, 133), (4, 201), (4, 202), (4, 203), (4, 218), (4, 220), (0, 32), (4, 221), (4, 222), (4, 223), (4, 224), (4, 181), (4, 183), (0, 27), (4, 184), (4, 185), (4, 187), (0, 28), (4, 188), (4, 135), (4, 134), (4, 233), (4, 235), (0, 34), (4, 236), (4, 204), (4, 205), (4, 206), (4, 146), (4, 148), (4, 150), (4, 152), (4, 154), (4, 156), (4, 158), (4, 160), (4, 162), (4, 164), (4, 166), (4, 168), (4, 170)] (by decide +kernel) (by decide +kernel)
theorem gL_law_X8_cut : GoodIn lw_tbl (wsV RL 117 RX8 yX8_cut wsX8_cut) := goodIn_app (goodT [(4, 229), (4, 230), (4, 231), (1, 10)] (by decide +kernel) (by decide +kernel)) ggL_law_X8_cut
set_option maxRecDepth 20000 in
theorem ggL_law_L_switchProp : GoodIn lw_tbl wsL_switchProp := goodIn_ca (goodT [(3, 43), (2, 202), (3, 44), (3, 45), (3, 46), (1, 1), (3, 47), (1, 154), (1, 152), (2, 207), (2, 209), (0, 8), (2, 210), (2, 212), (1, 15), (2, 211), (2, 18), (2, 19), (1, 2), (2, 20), (1, 47), (2, 185), (2, 186), (2, 187), (1, 6), (2, 188), (1, 90), (1, 89), (1, 88), (2, 189), (2, 191), (0, 7), (2, 192), (2, 193), (1, 212), (1, 213), (1, 214), (1, 52), (1, 56), (1, 215), (1, 216), (1, 217), (1, 3), (1, 218), (1, 42), (1, 219), (1, 198), (1, 199), (1, 200), (3, 48), (3, 49), (3, 50), (3, 51), (2, 17), (2, 55), (2, 56), (3, 52), (3, 53), (3, 54), (3, 55), (2, 22), (2, 23), (1, 160), (1, 162), (1, 164), (1, 166), (1, 168), (1, 170), (1, 172), (1, 174), (1, 57), (1, 59), (1, 61), (1, 92), (1, 94), (1, 96), (1, 43)] (by decide +kernel) (by decide +kernel)) (goodIn_sub lx_1 (by decide +kernel))
theorem gL_law_L_switchProp : GoodIn lw_tbl (va_wsS RL 118 yL_switchProp wsL_switchProp) := goodIn_app (goodT [(3, 41), (3, 42), (1, 0)] (by decide +kernel) (by decide +kernel)) ggL_law_L_switchProp
