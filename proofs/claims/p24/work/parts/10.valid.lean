/-! what the tables say of every entry, by a program: places of words in the table of this claim. qv_ names. -/
set_option maxRecDepth 100000 in
theorem qv_in1 {w : Cond} (h : w ∈ tables_1_1) : w ∈ lw_tbl := List.mem_append_right _ (show w ∈ tables_1_1 ++ (tables_1_2 ++ (tables_1_3 ++ (tables_1_4 ++ (tables_1_5 ++ (tables_1_6 ++ (tables_1_7 ++ (tables_1_8))))))) from List.mem_append_left _ h)
theorem qv_in2 {w : Cond} (h : w ∈ tables_1_2) : w ∈ lw_tbl := List.mem_append_right _ (show w ∈ tables_1_1 ++ (tables_1_2 ++ (tables_1_3 ++ (tables_1_4 ++ (tables_1_5 ++ (tables_1_6 ++ (tables_1_7 ++ (tables_1_8))))))) from List.mem_append_right _ (List.mem_append_left _ h))
theorem qv_in3 {w : Cond} (h : w ∈ tables_1_3) : w ∈ lw_tbl := List.mem_append_right _ (show w ∈ tables_1_1 ++ (tables_1_2 ++ (tables_1_3 ++ (tables_1_4 ++ (tables_1_5 ++ (tables_1_6 ++ (tables_1_7 ++ (tables_1_8))))))) from List.mem_append_right _ (List.mem_append_right _ (List.mem_append_left _ h)))
theorem qv_in4 {w : Cond} (h : w ∈ tables_1_4) : w ∈ lw_tbl := List.mem_append_right _ (show w ∈ tables_1_1 ++ (tables_1_2 ++ (tables_1_3 ++ (tables_1_4 ++ (tables_1_5 ++ (tables_1_6 ++ (tables_1_7 ++ (tables_1_8))))))) from List.mem_append_right _ (List.mem_append_right _ (List.mem_append_right _ (List.mem_append_left _ h))))
theorem qv_in5 {w : Cond} (h : w ∈ tables_1_5) : w ∈ lw_tbl := List.mem_append_right _ (show w ∈ tables_1_1 ++ (tables_1_2 ++ (tables_1_3 ++ (tables_1_4 ++ (tables_1_5 ++ (tables_1_6 ++ (tables_1_7 ++ (tables_1_8))))))) from List.mem_append_right _ (List.mem_append_right _ (List.mem_append_right _ (List.mem_append_right _ (List.mem_append_left _ h)))))
theorem qv_in6 {w : Cond} (h : w ∈ tables_1_6) : w ∈ lw_tbl := List.mem_append_right _ (show w ∈ tables_1_1 ++ (tables_1_2 ++ (tables_1_3 ++ (tables_1_4 ++ (tables_1_5 ++ (tables_1_6 ++ (tables_1_7 ++ (tables_1_8))))))) from List.mem_append_right _ (List.mem_append_right _ (List.mem_append_right _ (List.mem_append_right _ (List.mem_append_right _ (List.mem_append_left _ h))))))
theorem qv_in7 {w : Cond} (h : w ∈ tables_1_7) : w ∈ lw_tbl := List.mem_append_right _ (show w ∈ tables_1_1 ++ (tables_1_2 ++ (tables_1_3 ++ (tables_1_4 ++ (tables_1_5 ++ (tables_1_6 ++ (tables_1_7 ++ (tables_1_8))))))) from List.mem_append_right _ (List.mem_append_right _ (List.mem_append_right _ (List.mem_append_right _ (List.mem_append_right _ (List.mem_append_right _ (List.mem_append_left _ h)))))))
theorem qv_in8 {w : Cond} (h : w ∈ tables_1_8) : w ∈ lw_tbl := List.mem_append_right _ (show w ∈ tables_1_1 ++ (tables_1_2 ++ (tables_1_3 ++ (tables_1_4 ++ (tables_1_5 ++ (tables_1_6 ++ (tables_1_7 ++ (tables_1_8))))))) from List.mem_append_right _ (List.mem_append_right _ (List.mem_append_right _ (List.mem_append_right _ (List.mem_append_right _ (List.mem_append_right _ (List.mem_append_right _ (h))))))))
def qv_F (o i c k m : Nat) : Prop := (m = 0 ∧ c = 13 ∧ ((k = 0 ∧ Cond.fieldLink (qx_on o) i "java/lang/String" "value" "[B" ∈ lw_tbl) ∨ (k = 1 ∧ Cond.fieldLink (qx_on o) i "java/lang/String" "coder" "B" ∈ lw_tbl))) ∨
  (c < 13 ∧ ∃ C N, qx_cl[c]? = some (C, qx_T c, N) ∧ k < N ∧ (qx_oc o = c → (qx_T c k).1 = qx_on o) ∧ ((m = 0 ∧ Cond.fieldLink (qx_on o) i (qx_T c k).1 (qx_T c k).2.1 (qx_T c k).2.2.1 ∈ lw_tbl) ∨ (m = 1 ∧ ∃ host, Cond.fieldLinkNest (qx_on o) i (qx_T c k).1 (qx_T c k).2.1 (qx_T c k).2.2.1 host ∈ qx_nest)))
set_option maxRecDepth 100000 in
theorem qv_f0 : qv_F 1 10 0 0 0 := Or.inr ⟨by decide, "OneRoof", 16, rfl, by decide, fun _ => rfl, Or.inl ⟨rfl, qv_in3 (List.mem_of_getElem? (i := 60) rfl)⟩⟩
set_option maxRecDepth 100000 in
theorem qv_f1 : qv_F 1 19 0 1 0 := Or.inr ⟨by decide, "OneRoof", 16, rfl, by decide, fun _ => rfl, Or.inl ⟨rfl, qv_in3 (List.mem_of_getElem? (i := 61) rfl)⟩⟩
set_option maxRecDepth 100000 in
theorem qv_f2 : qv_F 1 23 0 2 0 := Or.inr ⟨by decide, "OneRoof", 16, rfl, by decide, fun _ => rfl, Or.inl ⟨rfl, qv_in3 (List.mem_of_getElem? (i := 62) rfl)⟩⟩
set_option maxRecDepth 100000 in
theorem qv_f3 : qv_F 1 29 0 3 0 := Or.inr ⟨by decide, "OneRoof", 16, rfl, by decide, fun _ => rfl, Or.inl ⟨rfl, qv_in3 (List.mem_of_getElem? (i := 63) rfl)⟩⟩
set_option maxRecDepth 100000 in
theorem qv_f4 : qv_F 1 36 0 4 0 := Or.inr ⟨by decide, "OneRoof", 16, rfl, by decide, fun _ => rfl, Or.inl ⟨rfl, qv_in3 (List.mem_of_getElem? (i := 64) rfl)⟩⟩
set_option maxRecDepth 100000 in
theorem qv_f5 : qv_F 1 43 0 5 0 := Or.inr ⟨by decide, "OneRoof", 16, rfl, by decide, fun _ => rfl, Or.inl ⟨rfl, qv_in3 (List.mem_of_getElem? (i := 65) rfl)⟩⟩
set_option maxRecDepth 100000 in
theorem qv_f6 : qv_F 1 50 0 6 0 := Or.inr ⟨by decide, "OneRoof", 16, rfl, by decide, fun _ => rfl, Or.inl ⟨rfl, qv_in3 (List.mem_of_getElem? (i := 66) rfl)⟩⟩
set_option maxRecDepth 100000 in
theorem qv_f7 : qv_F 1 63 0 7 0 := Or.inr ⟨by decide, "OneRoof", 16, rfl, by decide, fun _ => rfl, Or.inl ⟨rfl, qv_in3 (List.mem_of_getElem? (i := 67) rfl)⟩⟩
set_option maxRecDepth 100000 in
theorem qv_f8 : qv_F 1 72 0 8 0 := Or.inr ⟨by decide, "OneRoof", 16, rfl, by decide, fun _ => rfl, Or.inl ⟨rfl, qv_in3 (List.mem_of_getElem? (i := 68) rfl)⟩⟩
set_option maxRecDepth 100000 in
theorem qv_f9 : qv_F 1 81 0 9 0 := Or.inr ⟨by decide, "OneRoof", 16, rfl, by decide, fun _ => rfl, Or.inl ⟨rfl, qv_in3 (List.mem_of_getElem? (i := 69) rfl)⟩⟩
set_option maxRecDepth 100000 in
theorem qv_f10 : qv_F 1 88 0 10 0 := Or.inr ⟨by decide, "OneRoof", 16, rfl, by decide, fun _ => rfl, Or.inl ⟨rfl, qv_in3 (List.mem_of_getElem? (i := 70) rfl)⟩⟩
set_option maxRecDepth 100000 in
theorem qv_f11 : qv_F 1 92 0 11 0 := Or.inr ⟨by decide, "OneRoof", 16, rfl, by decide, fun _ => rfl, Or.inl ⟨rfl, qv_in3 (List.mem_of_getElem? (i := 71) rfl)⟩⟩
set_option maxRecDepth 100000 in
theorem qv_f12 : qv_F 1 100 0 12 0 := Or.inr ⟨by decide, "OneRoof", 16, rfl, by decide, fun _ => rfl, Or.inl ⟨rfl, qv_in3 (List.mem_of_getElem? (i := 72) rfl)⟩⟩
set_option maxRecDepth 100000 in
theorem qv_f13 : qv_F 1 104 0 13 0 := Or.inr ⟨by decide, "OneRoof", 16, rfl, by decide, fun _ => rfl, Or.inl ⟨rfl, qv_in3 (List.mem_of_getElem? (i := 73) rfl)⟩⟩
set_option maxRecDepth 100000 in
theorem qv_f14 : qv_F 1 110 0 14 0 := Or.inr ⟨by decide, "OneRoof", 16, rfl, by decide, fun _ => rfl, Or.inl ⟨rfl, qv_in3 (List.mem_of_getElem? (i := 74) rfl)⟩⟩
set_option maxRecDepth 100000 in
theorem qv_f15 : qv_F 1 114 0 15 0 := Or.inr ⟨by decide, "OneRoof", 16, rfl, by decide, fun _ => rfl, Or.inl ⟨rfl, qv_in3 (List.mem_of_getElem? (i := 75) rfl)⟩⟩
set_option maxRecDepth 100000 in
theorem qv_f16 : qv_F 1 122 1 6 0 := Or.inr ⟨by decide, "OneRoof$Folk", 7, rfl, by decide, fun h => absurd h (by decide), Or.inl ⟨rfl, qv_in1 (List.mem_of_getElem? (i := 57) rfl)⟩⟩
set_option maxRecDepth 100000 in
theorem qv_f17 : qv_F 1 144 6 1 0 := Or.inr ⟨by decide, "OneRoof$Pegs", 4, rfl, by decide, fun h => absurd h (by decide), Or.inl ⟨rfl, qv_in1 (List.mem_of_getElem? (i := 193) rfl)⟩⟩
set_option maxRecDepth 100000 in
theorem qv_f18 : qv_F 1 152 1 0 0 := Or.inr ⟨by decide, "OneRoof$Folk", 7, rfl, by decide, fun h => absurd h (by decide), Or.inl ⟨rfl, qv_in1 (List.mem_of_getElem? (i := 40) rfl)⟩⟩
set_option maxRecDepth 100000 in
theorem qv_f19 : qv_F 1 155 1 1 0 := Or.inr ⟨by decide, "OneRoof$Folk", 7, rfl, by decide, fun h => absurd h (by decide), Or.inl ⟨rfl, qv_in1 (List.mem_of_getElem? (i := 43) rfl)⟩⟩
set_option maxRecDepth 100000 in
theorem qv_f20 : qv_F 1 158 1 2 0 := Or.inr ⟨by decide, "OneRoof$Folk", 7, rfl, by decide, fun h => absurd h (by decide), Or.inl ⟨rfl, qv_in1 (List.mem_of_getElem? (i := 45) rfl)⟩⟩
set_option maxRecDepth 100000 in
theorem qv_f21 : qv_F 1 161 1 5 0 := Or.inr ⟨by decide, "OneRoof$Folk", 7, rfl, by decide, fun h => absurd h (by decide), Or.inl ⟨rfl, qv_in1 (List.mem_of_getElem? (i := 55) rfl)⟩⟩
set_option maxRecDepth 100000 in
theorem qv_f22 : qv_F 1 179 2 1 0 := Or.inr ⟨by decide, "OneRoof$Kinship", 2, rfl, by decide, fun h => absurd h (by decide), Or.inl ⟨rfl, qv_in1 (List.mem_of_getElem? (i := 89) rfl)⟩⟩
set_option maxRecDepth 100000 in
theorem qv_f23 : qv_F 1 190 3 7 0 := Or.inr ⟨by decide, "OneRoof$Feuds", 8, rfl, by decide, fun h => absurd h (by decide), Or.inl ⟨rfl, qv_in1 (List.mem_of_getElem? (i := 111) rfl)⟩⟩
set_option maxRecDepth 100000 in
theorem qv_f24 : qv_F 1 202 4 7 0 := Or.inr ⟨by decide, "OneRoof$Peaces", 8, rfl, by decide, fun h => absurd h (by decide), Or.inl ⟨rfl, qv_in1 (List.mem_of_getElem? (i := 151) rfl)⟩⟩
set_option maxRecDepth 100000 in
theorem qv_f25 : qv_F 1 207 4 0 0 := Or.inr ⟨by decide, "OneRoof$Peaces", 8, rfl, by decide, fun h => absurd h (by decide), Or.inl ⟨rfl, qv_in1 (List.mem_of_getElem? (i := 137) rfl)⟩⟩
set_option maxRecDepth 100000 in
theorem qv_f26 : qv_F 1 210 4 1 0 := Or.inr ⟨by decide, "OneRoof$Peaces", 8, rfl, by decide, fun h => absurd h (by decide), Or.inl ⟨rfl, qv_in1 (List.mem_of_getElem? (i := 139) rfl)⟩⟩
set_option maxRecDepth 100000 in
theorem qv_f27 : qv_F 1 213 4 2 0 := Or.inr ⟨by decide, "OneRoof$Peaces", 8, rfl, by decide, fun h => absurd h (by decide), Or.inl ⟨rfl, qv_in1 (List.mem_of_getElem? (i := 141) rfl)⟩⟩
set_option maxRecDepth 100000 in
theorem qv_f28 : qv_F 1 216 4 3 0 := Or.inr ⟨by decide, "OneRoof$Peaces", 8, rfl, by decide, fun h => absurd h (by decide), Or.inl ⟨rfl, qv_in1 (List.mem_of_getElem? (i := 143) rfl)⟩⟩
set_option maxRecDepth 100000 in
theorem qv_f29 : qv_F 1 219 4 4 0 := Or.inr ⟨by decide, "OneRoof$Peaces", 8, rfl, by decide, fun h => absurd h (by decide), Or.inl ⟨rfl, qv_in1 (List.mem_of_getElem? (i := 145) rfl)⟩⟩
set_option maxRecDepth 100000 in
theorem qv_f30 : qv_F 1 222 4 6 0 := Or.inr ⟨by decide, "OneRoof$Peaces", 8, rfl, by decide, fun h => absurd h (by decide), Or.inl ⟨rfl, qv_in1 (List.mem_of_getElem? (i := 149) rfl)⟩⟩
set_option maxRecDepth 100000 in
theorem qv_f31 : qv_F 1 301 1 3 0 := Or.inr ⟨by decide, "OneRoof$Folk", 7, rfl, by decide, fun h => absurd h (by decide), Or.inl ⟨rfl, qv_in1 (List.mem_of_getElem? (i := 50) rfl)⟩⟩
set_option maxRecDepth 100000 in
theorem qv_f32 : qv_F 1 315 10 3 0 := Or.inr ⟨by decide, "OneRoof$Telling", 7, rfl, by decide, fun h => absurd h (by decide), Or.inl ⟨rfl, qv_in3 (List.mem_of_getElem? (i := 3) rfl)⟩⟩
set_option maxRecDepth 100000 in
theorem qv_f33 : qv_F 1 318 10 5 0 := Or.inr ⟨by decide, "OneRoof$Telling", 7, rfl, by decide, fun h => absurd h (by decide), Or.inl ⟨rfl, qv_in3 (List.mem_of_getElem? (i := 7) rfl)⟩⟩
set_option maxRecDepth 100000 in
theorem qv_f34 : qv_F 1 321 10 4 0 := Or.inr ⟨by decide, "OneRoof$Telling", 7, rfl, by decide, fun h => absurd h (by decide), Or.inl ⟨rfl, qv_in3 (List.mem_of_getElem? (i := 5) rfl)⟩⟩
set_option maxRecDepth 100000 in
theorem qv_f35 : qv_F 1 324 10 2 0 := Or.inr ⟨by decide, "OneRoof$Telling", 7, rfl, by decide, fun h => absurd h (by decide), Or.inl ⟨rfl, qv_in3 (List.mem_of_getElem? (i := 1) rfl)⟩⟩
set_option maxRecDepth 100000 in
theorem qv_f36 : qv_F 1 327 10 1 0 := Or.inr ⟨by decide, "OneRoof$Telling", 7, rfl, by decide, fun h => absurd h (by decide), Or.inl ⟨rfl, qv_in2 (List.mem_of_getElem? (i := 239) rfl)⟩⟩
set_option maxRecDepth 100000 in
theorem qv_f37 : qv_F 1 351 5 1 0 := Or.inr ⟨by decide, "OneRoof$Acts", 2, rfl, by decide, fun h => absurd h (by decide), Or.inl ⟨rfl, qv_in1 (List.mem_of_getElem? (i := 178) rfl)⟩⟩
set_option maxRecDepth 100000 in
theorem qv_f38 : qv_F 1 354 5 0 0 := Or.inr ⟨by decide, "OneRoof$Acts", 2, rfl, by decide, fun h => absurd h (by decide), Or.inl ⟨rfl, qv_in1 (List.mem_of_getElem? (i := 176) rfl)⟩⟩
set_option maxRecDepth 100000 in
theorem qv_f39 : qv_F 1 374 6 0 0 := Or.inr ⟨by decide, "OneRoof$Pegs", 4, rfl, by decide, fun h => absurd h (by decide), Or.inl ⟨rfl, qv_in1 (List.mem_of_getElem? (i := 191) rfl)⟩⟩
set_option maxRecDepth 100000 in
theorem qv_f40 : qv_F 1 391 11 7 0 := Or.inr ⟨by decide, "OneRoof$History", 9, rfl, by decide, fun h => absurd h (by decide), Or.inl ⟨rfl, qv_in3 (List.mem_of_getElem? (i := 38) rfl)⟩⟩
set_option maxRecDepth 100000 in
theorem qv_f41 : qv_F 2 9 1 0 0 := Or.inr ⟨by decide, "OneRoof$Folk", 7, rfl, by decide, fun _ => rfl, Or.inl ⟨rfl, qv_in1 (List.mem_of_getElem? (i := 39) rfl)⟩⟩
set_option maxRecDepth 100000 in
theorem qv_f42 : qv_F 2 15 1 1 0 := Or.inr ⟨by decide, "OneRoof$Folk", 7, rfl, by decide, fun _ => rfl, Or.inl ⟨rfl, qv_in1 (List.mem_of_getElem? (i := 41) rfl)⟩⟩
set_option maxRecDepth 100000 in
theorem qv_f43 : qv_F 2 18 1 2 0 := Or.inr ⟨by decide, "OneRoof$Folk", 7, rfl, by decide, fun _ => rfl, Or.inl ⟨rfl, qv_in1 (List.mem_of_getElem? (i := 44) rfl)⟩⟩
set_option maxRecDepth 100000 in
theorem qv_f44 : qv_F 2 21 1 3 0 := Or.inr ⟨by decide, "OneRoof$Folk", 7, rfl, by decide, fun _ => rfl, Or.inl ⟨rfl, qv_in1 (List.mem_of_getElem? (i := 48) rfl)⟩⟩
set_option maxRecDepth 100000 in
theorem qv_f45 : qv_F 2 24 1 4 0 := Or.inr ⟨by decide, "OneRoof$Folk", 7, rfl, by decide, fun _ => rfl, Or.inl ⟨rfl, qv_in1 (List.mem_of_getElem? (i := 51) rfl)⟩⟩
set_option maxRecDepth 100000 in
theorem qv_f46 : qv_F 2 28 1 5 0 := Or.inr ⟨by decide, "OneRoof$Folk", 7, rfl, by decide, fun _ => rfl, Or.inl ⟨rfl, qv_in1 (List.mem_of_getElem? (i := 54) rfl)⟩⟩
set_option maxRecDepth 100000 in
theorem qv_f47 : qv_F 2 32 1 6 0 := Or.inr ⟨by decide, "OneRoof$Folk", 7, rfl, by decide, fun _ => rfl, Or.inl ⟨rfl, qv_in1 (List.mem_of_getElem? (i := 56) rfl)⟩⟩
set_option maxRecDepth 100000 in
theorem qv_f48 : qv_F 3 9 2 0 0 := Or.inr ⟨by decide, "OneRoof$Kinship", 2, rfl, by decide, fun _ => rfl, Or.inl ⟨rfl, qv_in1 (List.mem_of_getElem? (i := 86) rfl)⟩⟩
set_option maxRecDepth 100000 in
theorem qv_f49 : qv_F 3 15 2 1 0 := Or.inr ⟨by decide, "OneRoof$Kinship", 2, rfl, by decide, fun _ => rfl, Or.inl ⟨rfl, qv_in1 (List.mem_of_getElem? (i := 88) rfl)⟩⟩
set_option maxRecDepth 100000 in
theorem qv_f50 : qv_F 5 11 3 0 0 := Or.inr ⟨by decide, "OneRoof$Feuds", 8, rfl, by decide, fun _ => rfl, Or.inl ⟨rfl, qv_in1 (List.mem_of_getElem? (i := 101) rfl)⟩⟩
set_option maxRecDepth 100000 in
theorem qv_f51 : qv_F 5 15 3 1 0 := Or.inr ⟨by decide, "OneRoof$Feuds", 8, rfl, by decide, fun _ => rfl, Or.inl ⟨rfl, qv_in1 (List.mem_of_getElem? (i := 102) rfl)⟩⟩
set_option maxRecDepth 100000 in
theorem qv_f52 : qv_F 5 18 3 2 0 := Or.inr ⟨by decide, "OneRoof$Feuds", 8, rfl, by decide, fun _ => rfl, Or.inl ⟨rfl, qv_in1 (List.mem_of_getElem? (i := 103) rfl)⟩⟩
set_option maxRecDepth 100000 in
theorem qv_f53 : qv_F 5 21 3 3 0 := Or.inr ⟨by decide, "OneRoof$Feuds", 8, rfl, by decide, fun _ => rfl, Or.inl ⟨rfl, qv_in1 (List.mem_of_getElem? (i := 104) rfl)⟩⟩
set_option maxRecDepth 100000 in
theorem qv_f54 : qv_F 5 24 3 4 0 := Or.inr ⟨by decide, "OneRoof$Feuds", 8, rfl, by decide, fun _ => rfl, Or.inl ⟨rfl, qv_in1 (List.mem_of_getElem? (i := 105) rfl)⟩⟩
set_option maxRecDepth 100000 in
theorem qv_f55 : qv_F 5 27 3 5 0 := Or.inr ⟨by decide, "OneRoof$Feuds", 8, rfl, by decide, fun _ => rfl, Or.inl ⟨rfl, qv_in1 (List.mem_of_getElem? (i := 106) rfl)⟩⟩
set_option maxRecDepth 100000 in
theorem qv_f56 : qv_F 5 30 3 6 0 := Or.inr ⟨by decide, "OneRoof$Feuds", 8, rfl, by decide, fun _ => rfl, Or.inl ⟨rfl, qv_in1 (List.mem_of_getElem? (i := 108) rfl)⟩⟩
set_option maxRecDepth 100000 in
theorem qv_f57 : qv_F 5 34 3 7 0 := Or.inr ⟨by decide, "OneRoof$Feuds", 8, rfl, by decide, fun _ => rfl, Or.inl ⟨rfl, qv_in1 (List.mem_of_getElem? (i := 110) rfl)⟩⟩
theorem qv_f58 : qv_F 5 38 2 0 1 := Or.inr ⟨by decide, "OneRoof$Kinship", 2, rfl, by decide, fun h => absurd h (by decide), Or.inr ⟨rfl, "OneRoof", List.mem_of_getElem? (i := 1) rfl⟩⟩
set_option maxRecDepth 100000 in
theorem qv_f59 : qv_F 6 9 4 0 0 := Or.inr ⟨by decide, "OneRoof$Peaces", 8, rfl, by decide, fun _ => rfl, Or.inl ⟨rfl, qv_in1 (List.mem_of_getElem? (i := 135) rfl)⟩⟩
set_option maxRecDepth 100000 in
theorem qv_f60 : qv_F 6 15 4 1 0 := Or.inr ⟨by decide, "OneRoof$Peaces", 8, rfl, by decide, fun _ => rfl, Or.inl ⟨rfl, qv_in1 (List.mem_of_getElem? (i := 138) rfl)⟩⟩
set_option maxRecDepth 100000 in
theorem qv_f61 : qv_F 6 18 4 2 0 := Or.inr ⟨by decide, "OneRoof$Peaces", 8, rfl, by decide, fun _ => rfl, Or.inl ⟨rfl, qv_in1 (List.mem_of_getElem? (i := 140) rfl)⟩⟩
set_option maxRecDepth 100000 in
theorem qv_f62 : qv_F 6 21 4 3 0 := Or.inr ⟨by decide, "OneRoof$Peaces", 8, rfl, by decide, fun _ => rfl, Or.inl ⟨rfl, qv_in1 (List.mem_of_getElem? (i := 142) rfl)⟩⟩
set_option maxRecDepth 100000 in
theorem qv_f63 : qv_F 6 24 4 4 0 := Or.inr ⟨by decide, "OneRoof$Peaces", 8, rfl, by decide, fun _ => rfl, Or.inl ⟨rfl, qv_in1 (List.mem_of_getElem? (i := 144) rfl)⟩⟩
set_option maxRecDepth 100000 in
theorem qv_f64 : qv_F 6 27 4 5 0 := Or.inr ⟨by decide, "OneRoof$Peaces", 8, rfl, by decide, fun _ => rfl, Or.inl ⟨rfl, qv_in1 (List.mem_of_getElem? (i := 146) rfl)⟩⟩
set_option maxRecDepth 100000 in
theorem qv_f65 : qv_F 6 30 4 6 0 := Or.inr ⟨by decide, "OneRoof$Peaces", 8, rfl, by decide, fun _ => rfl, Or.inl ⟨rfl, qv_in1 (List.mem_of_getElem? (i := 147) rfl)⟩⟩
set_option maxRecDepth 100000 in
theorem qv_f66 : qv_F 6 34 4 7 0 := Or.inr ⟨by decide, "OneRoof$Peaces", 8, rfl, by decide, fun _ => rfl, Or.inl ⟨rfl, qv_in1 (List.mem_of_getElem? (i := 150) rfl)⟩⟩
set_option maxRecDepth 100000 in
theorem qv_f67 : qv_F 6 38 1 4 0 := Or.inr ⟨by decide, "OneRoof$Folk", 7, rfl, by decide, fun h => absurd h (by decide), Or.inl ⟨rfl, qv_in1 (List.mem_of_getElem? (i := 52) rfl)⟩⟩
set_option maxRecDepth 100000 in
theorem qv_f68 : qv_F 7 7 5 0 0 := Or.inr ⟨by decide, "OneRoof$Acts", 2, rfl, by decide, fun _ => rfl, Or.inl ⟨rfl, qv_in1 (List.mem_of_getElem? (i := 175) rfl)⟩⟩
set_option maxRecDepth 100000 in
theorem qv_f69 : qv_F 7 13 5 1 0 := Or.inr ⟨by decide, "OneRoof$Acts", 2, rfl, by decide, fun _ => rfl, Or.inl ⟨rfl, qv_in1 (List.mem_of_getElem? (i := 177) rfl)⟩⟩
set_option maxRecDepth 100000 in
theorem qv_f70 : qv_F 8 11 6 0 0 := Or.inr ⟨by decide, "OneRoof$Pegs", 4, rfl, by decide, fun _ => rfl, Or.inl ⟨rfl, qv_in1 (List.mem_of_getElem? (i := 190) rfl)⟩⟩
set_option maxRecDepth 100000 in
theorem qv_f71 : qv_F 8 15 6 1 0 := Or.inr ⟨by decide, "OneRoof$Pegs", 4, rfl, by decide, fun _ => rfl, Or.inl ⟨rfl, qv_in1 (List.mem_of_getElem? (i := 192) rfl)⟩⟩
set_option maxRecDepth 100000 in
theorem qv_f72 : qv_F 8 18 6 2 0 := Or.inr ⟨by decide, "OneRoof$Pegs", 4, rfl, by decide, fun _ => rfl, Or.inl ⟨rfl, qv_in1 (List.mem_of_getElem? (i := 194) rfl)⟩⟩
set_option maxRecDepth 100000 in
theorem qv_f73 : qv_F 8 21 6 3 0 := Or.inr ⟨by decide, "OneRoof$Pegs", 4, rfl, by decide, fun _ => rfl, Or.inl ⟨rfl, qv_in1 (List.mem_of_getElem? (i := 195) rfl)⟩⟩
set_option maxRecDepth 100000 in
theorem qv_f74 : qv_F 9 9 7 0 0 := Or.inr ⟨by decide, "OneRoof$Custom", 8, rfl, by decide, fun _ => rfl, Or.inl ⟨rfl, qv_in2 (List.mem_of_getElem? (i := 121) rfl)⟩⟩
set_option maxRecDepth 100000 in
theorem qv_f75 : qv_F 9 15 7 1 0 := Or.inr ⟨by decide, "OneRoof$Custom", 8, rfl, by decide, fun _ => rfl, Or.inl ⟨rfl, qv_in2 (List.mem_of_getElem? (i := 122) rfl)⟩⟩
set_option maxRecDepth 100000 in
theorem qv_f76 : qv_F 9 18 7 2 0 := Or.inr ⟨by decide, "OneRoof$Custom", 8, rfl, by decide, fun _ => rfl, Or.inl ⟨rfl, qv_in2 (List.mem_of_getElem? (i := 123) rfl)⟩⟩
set_option maxRecDepth 100000 in
theorem qv_f77 : qv_F 9 21 7 3 0 := Or.inr ⟨by decide, "OneRoof$Custom", 8, rfl, by decide, fun _ => rfl, Or.inl ⟨rfl, qv_in2 (List.mem_of_getElem? (i := 124) rfl)⟩⟩
set_option maxRecDepth 100000 in
theorem qv_f78 : qv_F 9 25 7 4 0 := Or.inr ⟨by decide, "OneRoof$Custom", 8, rfl, by decide, fun _ => rfl, Or.inl ⟨rfl, qv_in2 (List.mem_of_getElem? (i := 125) rfl)⟩⟩
set_option maxRecDepth 100000 in
theorem qv_f79 : qv_F 9 28 7 5 0 := Or.inr ⟨by decide, "OneRoof$Custom", 8, rfl, by decide, fun _ => rfl, Or.inl ⟨rfl, qv_in2 (List.mem_of_getElem? (i := 126) rfl)⟩⟩
set_option maxRecDepth 100000 in
theorem qv_f80 : qv_F 9 31 7 6 0 := Or.inr ⟨by decide, "OneRoof$Custom", 8, rfl, by decide, fun _ => rfl, Or.inl ⟨rfl, qv_in2 (List.mem_of_getElem? (i := 127) rfl)⟩⟩
set_option maxRecDepth 100000 in
theorem qv_f81 : qv_F 9 34 7 7 0 := Or.inr ⟨by decide, "OneRoof$Custom", 8, rfl, by decide, fun _ => rfl, Or.inl ⟨rfl, qv_in2 (List.mem_of_getElem? (i := 128) rfl)⟩⟩
set_option maxRecDepth 100000 in
theorem qv_f82 : qv_F 10 9 13 0 0 := Or.inl ⟨rfl, rfl, Or.inl ⟨rfl, qv_in8 (List.mem_of_getElem? (i := 105) rfl)⟩⟩
set_option maxRecDepth 100000 in
theorem qv_f83 : qv_F 10 15 13 1 0 := Or.inl ⟨rfl, rfl, Or.inr ⟨rfl, qv_in8 (List.mem_of_getElem? (i := 106) rfl)⟩⟩
set_option maxRecDepth 100000 in
theorem qv_f84 : qv_F 14 11 8 5 0 := Or.inr ⟨by decide, "OneRoof$Moment", 13, rfl, by decide, fun _ => rfl, Or.inl ⟨rfl, qv_in2 (List.mem_of_getElem? (i := 164) rfl)⟩⟩
set_option maxRecDepth 100000 in
theorem qv_f85 : qv_F 14 17 8 6 0 := Or.inr ⟨by decide, "OneRoof$Moment", 13, rfl, by decide, fun _ => rfl, Or.inl ⟨rfl, qv_in2 (List.mem_of_getElem? (i := 165) rfl)⟩⟩
set_option maxRecDepth 100000 in
theorem qv_f86 : qv_F 14 20 8 7 0 := Or.inr ⟨by decide, "OneRoof$Moment", 13, rfl, by decide, fun _ => rfl, Or.inl ⟨rfl, qv_in2 (List.mem_of_getElem? (i := 166) rfl)⟩⟩
set_option maxRecDepth 100000 in
theorem qv_f87 : qv_F 14 23 8 8 0 := Or.inr ⟨by decide, "OneRoof$Moment", 13, rfl, by decide, fun _ => rfl, Or.inl ⟨rfl, qv_in2 (List.mem_of_getElem? (i := 167) rfl)⟩⟩
set_option maxRecDepth 100000 in
theorem qv_f88 : qv_F 14 27 8 9 0 := Or.inr ⟨by decide, "OneRoof$Moment", 13, rfl, by decide, fun _ => rfl, Or.inl ⟨rfl, qv_in2 (List.mem_of_getElem? (i := 168) rfl)⟩⟩
set_option maxRecDepth 100000 in
theorem qv_f89 : qv_F 14 30 8 10 0 := Or.inr ⟨by decide, "OneRoof$Moment", 13, rfl, by decide, fun _ => rfl, Or.inl ⟨rfl, qv_in2 (List.mem_of_getElem? (i := 169) rfl)⟩⟩
set_option maxRecDepth 100000 in
theorem qv_f90 : qv_F 14 34 8 11 0 := Or.inr ⟨by decide, "OneRoof$Moment", 13, rfl, by decide, fun _ => rfl, Or.inl ⟨rfl, qv_in2 (List.mem_of_getElem? (i := 171) rfl)⟩⟩
set_option maxRecDepth 100000 in
theorem qv_f91 : qv_F 14 38 8 12 0 := Or.inr ⟨by decide, "OneRoof$Moment", 13, rfl, by decide, fun _ => rfl, Or.inl ⟨rfl, qv_in2 (List.mem_of_getElem? (i := 172) rfl)⟩⟩
set_option maxRecDepth 100000 in
theorem qv_f92 : qv_F 14 41 8 0 0 := Or.inr ⟨by decide, "OneRoof$Moment", 13, rfl, by decide, fun _ => rfl, Or.inl ⟨rfl, qv_in2 (List.mem_of_getElem? (i := 154) rfl)⟩⟩
set_option maxRecDepth 100000 in
theorem qv_f93 : qv_F 14 45 8 1 0 := Or.inr ⟨by decide, "OneRoof$Moment", 13, rfl, by decide, fun _ => rfl, Or.inl ⟨rfl, qv_in2 (List.mem_of_getElem? (i := 157) rfl)⟩⟩
set_option maxRecDepth 100000 in
theorem qv_f94 : qv_F 14 49 8 2 0 := Or.inr ⟨by decide, "OneRoof$Moment", 13, rfl, by decide, fun _ => rfl, Or.inl ⟨rfl, qv_in2 (List.mem_of_getElem? (i := 159) rfl)⟩⟩
set_option maxRecDepth 100000 in
theorem qv_f95 : qv_F 14 53 8 3 0 := Or.inr ⟨by decide, "OneRoof$Moment", 13, rfl, by decide, fun _ => rfl, Or.inl ⟨rfl, qv_in2 (List.mem_of_getElem? (i := 161) rfl)⟩⟩
set_option maxRecDepth 100000 in
theorem qv_f96 : qv_F 14 57 8 4 0 := Or.inr ⟨by decide, "OneRoof$Moment", 13, rfl, by decide, fun _ => rfl, Or.inl ⟨rfl, qv_in2 (List.mem_of_getElem? (i := 163) rfl)⟩⟩
set_option maxRecDepth 100000 in
theorem qv_f97 : qv_F 14 114 1 2 0 := Or.inr ⟨by decide, "OneRoof$Folk", 7, rfl, by decide, fun h => absurd h (by decide), Or.inl ⟨rfl, qv_in1 (List.mem_of_getElem? (i := 47) rfl)⟩⟩
set_option maxRecDepth 100000 in
theorem qv_f98 : qv_F 14 117 1 4 0 := Or.inr ⟨by decide, "OneRoof$Folk", 7, rfl, by decide, fun h => absurd h (by decide), Or.inl ⟨rfl, qv_in1 (List.mem_of_getElem? (i := 53) rfl)⟩⟩
set_option maxRecDepth 100000 in
theorem qv_f99 : qv_F 14 133 1 6 0 := Or.inr ⟨by decide, "OneRoof$Folk", 7, rfl, by decide, fun h => absurd h (by decide), Or.inl ⟨rfl, qv_in1 (List.mem_of_getElem? (i := 59) rfl)⟩⟩
set_option maxRecDepth 100000 in
theorem qv_f100 : qv_F 15 9 9 1 0 := Or.inr ⟨by decide, "OneRoof$Guests", 8, rfl, by decide, fun _ => rfl, Or.inl ⟨rfl, qv_in2 (List.mem_of_getElem? (i := 207) rfl)⟩⟩
set_option maxRecDepth 100000 in
theorem qv_f101 : qv_F 15 15 9 2 0 := Or.inr ⟨by decide, "OneRoof$Guests", 8, rfl, by decide, fun _ => rfl, Or.inl ⟨rfl, qv_in2 (List.mem_of_getElem? (i := 208) rfl)⟩⟩
set_option maxRecDepth 100000 in
theorem qv_f102 : qv_F 15 19 9 3 0 := Or.inr ⟨by decide, "OneRoof$Guests", 8, rfl, by decide, fun _ => rfl, Or.inl ⟨rfl, qv_in2 (List.mem_of_getElem? (i := 209) rfl)⟩⟩
set_option maxRecDepth 100000 in
theorem qv_f103 : qv_F 15 22 9 4 0 := Or.inr ⟨by decide, "OneRoof$Guests", 8, rfl, by decide, fun _ => rfl, Or.inl ⟨rfl, qv_in2 (List.mem_of_getElem? (i := 210) rfl)⟩⟩
set_option maxRecDepth 100000 in
theorem qv_f104 : qv_F 15 25 9 5 0 := Or.inr ⟨by decide, "OneRoof$Guests", 8, rfl, by decide, fun _ => rfl, Or.inl ⟨rfl, qv_in2 (List.mem_of_getElem? (i := 211) rfl)⟩⟩
set_option maxRecDepth 100000 in
theorem qv_f105 : qv_F 15 28 9 6 0 := Or.inr ⟨by decide, "OneRoof$Guests", 8, rfl, by decide, fun _ => rfl, Or.inl ⟨rfl, qv_in2 (List.mem_of_getElem? (i := 212) rfl)⟩⟩
set_option maxRecDepth 100000 in
theorem qv_f106 : qv_F 15 31 9 7 0 := Or.inr ⟨by decide, "OneRoof$Guests", 8, rfl, by decide, fun _ => rfl, Or.inl ⟨rfl, qv_in2 (List.mem_of_getElem? (i := 213) rfl)⟩⟩
set_option maxRecDepth 100000 in
theorem qv_f107 : qv_F 15 34 9 0 0 := Or.inr ⟨by decide, "OneRoof$Guests", 8, rfl, by decide, fun _ => rfl, Or.inl ⟨rfl, qv_in2 (List.mem_of_getElem? (i := 206) rfl)⟩⟩
set_option maxRecDepth 100000 in
theorem qv_f108 : qv_F 15 54 8 0 0 := Or.inr ⟨by decide, "OneRoof$Moment", 13, rfl, by decide, fun h => absurd h (by decide), Or.inl ⟨rfl, qv_in2 (List.mem_of_getElem? (i := 155) rfl)⟩⟩
set_option maxRecDepth 100000 in
theorem qv_f109 : qv_F 15 58 1 1 0 := Or.inr ⟨by decide, "OneRoof$Folk", 7, rfl, by decide, fun h => absurd h (by decide), Or.inl ⟨rfl, qv_in1 (List.mem_of_getElem? (i := 42) rfl)⟩⟩
set_option maxRecDepth 100000 in
theorem qv_f110 : qv_F 15 93 8 2 0 := Or.inr ⟨by decide, "OneRoof$Moment", 13, rfl, by decide, fun h => absurd h (by decide), Or.inl ⟨rfl, qv_in2 (List.mem_of_getElem? (i := 160) rfl)⟩⟩
set_option maxRecDepth 100000 in
theorem qv_f111 : qv_F 15 103 3 6 0 := Or.inr ⟨by decide, "OneRoof$Feuds", 8, rfl, by decide, fun h => absurd h (by decide), Or.inl ⟨rfl, qv_in1 (List.mem_of_getElem? (i := 109) rfl)⟩⟩
set_option maxRecDepth 100000 in
theorem qv_f112 : qv_F 15 128 8 1 0 := Or.inr ⟨by decide, "OneRoof$Moment", 13, rfl, by decide, fun h => absurd h (by decide), Or.inl ⟨rfl, qv_in2 (List.mem_of_getElem? (i := 158) rfl)⟩⟩
set_option maxRecDepth 100000 in
theorem qv_f113 : qv_F 15 139 1 3 0 := Or.inr ⟨by decide, "OneRoof$Folk", 7, rfl, by decide, fun h => absurd h (by decide), Or.inl ⟨rfl, qv_in1 (List.mem_of_getElem? (i := 49) rfl)⟩⟩
set_option maxRecDepth 100000 in
theorem qv_f114 : qv_F 16 11 10 1 0 := Or.inr ⟨by decide, "OneRoof$Telling", 7, rfl, by decide, fun _ => rfl, Or.inl ⟨rfl, qv_in2 (List.mem_of_getElem? (i := 238) rfl)⟩⟩
set_option maxRecDepth 100000 in
theorem qv_f115 : qv_F 16 15 10 2 0 := Or.inr ⟨by decide, "OneRoof$Telling", 7, rfl, by decide, fun _ => rfl, Or.inl ⟨rfl, qv_in3 (List.mem_of_getElem? (i := 0) rfl)⟩⟩
set_option maxRecDepth 100000 in
theorem qv_f116 : qv_F 16 19 10 3 0 := Or.inr ⟨by decide, "OneRoof$Telling", 7, rfl, by decide, fun _ => rfl, Or.inl ⟨rfl, qv_in3 (List.mem_of_getElem? (i := 2) rfl)⟩⟩
set_option maxRecDepth 100000 in
theorem qv_f117 : qv_F 16 23 10 4 0 := Or.inr ⟨by decide, "OneRoof$Telling", 7, rfl, by decide, fun _ => rfl, Or.inl ⟨rfl, qv_in3 (List.mem_of_getElem? (i := 4) rfl)⟩⟩
set_option maxRecDepth 100000 in
theorem qv_f118 : qv_F 16 26 10 5 0 := Or.inr ⟨by decide, "OneRoof$Telling", 7, rfl, by decide, fun _ => rfl, Or.inl ⟨rfl, qv_in3 (List.mem_of_getElem? (i := 6) rfl)⟩⟩
set_option maxRecDepth 100000 in
theorem qv_f119 : qv_F 16 29 10 6 0 := Or.inr ⟨by decide, "OneRoof$Telling", 7, rfl, by decide, fun _ => rfl, Or.inl ⟨rfl, qv_in3 (List.mem_of_getElem? (i := 8) rfl)⟩⟩
set_option maxRecDepth 100000 in
theorem qv_f120 : qv_F 16 32 10 0 0 := Or.inr ⟨by decide, "OneRoof$Telling", 7, rfl, by decide, fun _ => rfl, Or.inl ⟨rfl, qv_in2 (List.mem_of_getElem? (i := 237) rfl)⟩⟩
set_option maxRecDepth 100000 in
theorem qv_f121 : qv_F 16 50 8 10 0 := Or.inr ⟨by decide, "OneRoof$Moment", 13, rfl, by decide, fun h => absurd h (by decide), Or.inl ⟨rfl, qv_in2 (List.mem_of_getElem? (i := 170) rfl)⟩⟩
set_option maxRecDepth 100000 in
theorem qv_f122 : qv_F 16 58 8 3 0 := Or.inr ⟨by decide, "OneRoof$Moment", 13, rfl, by decide, fun h => absurd h (by decide), Or.inl ⟨rfl, qv_in2 (List.mem_of_getElem? (i := 162) rfl)⟩⟩
set_option maxRecDepth 100000 in
theorem qv_f123 : qv_F 16 72 8 0 0 := Or.inr ⟨by decide, "OneRoof$Moment", 13, rfl, by decide, fun h => absurd h (by decide), Or.inl ⟨rfl, qv_in2 (List.mem_of_getElem? (i := 156) rfl)⟩⟩
set_option maxRecDepth 100000 in
theorem qv_f124 : qv_F 16 76 1 6 0 := Or.inr ⟨by decide, "OneRoof$Folk", 7, rfl, by decide, fun h => absurd h (by decide), Or.inl ⟨rfl, qv_in1 (List.mem_of_getElem? (i := 58) rfl)⟩⟩
set_option maxRecDepth 100000 in
theorem qv_f125 : qv_F 17 11 11 3 0 := Or.inr ⟨by decide, "OneRoof$History", 9, rfl, by decide, fun _ => rfl, Or.inl ⟨rfl, qv_in3 (List.mem_of_getElem? (i := 33) rfl)⟩⟩
set_option maxRecDepth 100000 in
theorem qv_f126 : qv_F 17 15 11 4 0 := Or.inr ⟨by decide, "OneRoof$History", 9, rfl, by decide, fun _ => rfl, Or.inl ⟨rfl, qv_in3 (List.mem_of_getElem? (i := 34) rfl)⟩⟩
set_option maxRecDepth 100000 in
theorem qv_f127 : qv_F 17 18 11 5 0 := Or.inr ⟨by decide, "OneRoof$History", 9, rfl, by decide, fun _ => rfl, Or.inl ⟨rfl, qv_in3 (List.mem_of_getElem? (i := 35) rfl)⟩⟩
set_option maxRecDepth 100000 in
theorem qv_f128 : qv_F 17 21 11 6 0 := Or.inr ⟨by decide, "OneRoof$History", 9, rfl, by decide, fun _ => rfl, Or.inl ⟨rfl, qv_in3 (List.mem_of_getElem? (i := 36) rfl)⟩⟩
set_option maxRecDepth 100000 in
theorem qv_f129 : qv_F 17 24 11 7 0 := Or.inr ⟨by decide, "OneRoof$History", 9, rfl, by decide, fun _ => rfl, Or.inl ⟨rfl, qv_in3 (List.mem_of_getElem? (i := 37) rfl)⟩⟩
set_option maxRecDepth 100000 in
theorem qv_f130 : qv_F 17 28 11 8 0 := Or.inr ⟨by decide, "OneRoof$History", 9, rfl, by decide, fun _ => rfl, Or.inl ⟨rfl, qv_in3 (List.mem_of_getElem? (i := 39) rfl)⟩⟩
set_option maxRecDepth 100000 in
theorem qv_f131 : qv_F 17 31 11 0 0 := Or.inr ⟨by decide, "OneRoof$History", 9, rfl, by decide, fun _ => rfl, Or.inl ⟨rfl, qv_in3 (List.mem_of_getElem? (i := 30) rfl)⟩⟩
set_option maxRecDepth 100000 in
theorem qv_f132 : qv_F 17 35 11 1 0 := Or.inr ⟨by decide, "OneRoof$History", 9, rfl, by decide, fun _ => rfl, Or.inl ⟨rfl, qv_in3 (List.mem_of_getElem? (i := 31) rfl)⟩⟩
set_option maxRecDepth 100000 in
theorem qv_f133 : qv_F 17 39 11 2 0 := Or.inr ⟨by decide, "OneRoof$History", 9, rfl, by decide, fun _ => rfl, Or.inl ⟨rfl, qv_in3 (List.mem_of_getElem? (i := 32) rfl)⟩⟩
set_option maxRecDepth 100000 in
theorem qv_f134 : qv_F 17 60 3 5 0 := Or.inr ⟨by decide, "OneRoof$Feuds", 8, rfl, by decide, fun h => absurd h (by decide), Or.inl ⟨rfl, qv_in1 (List.mem_of_getElem? (i := 107) rfl)⟩⟩
set_option maxRecDepth 100000 in
theorem qv_f135 : qv_F 17 65 4 6 0 := Or.inr ⟨by decide, "OneRoof$Peaces", 8, rfl, by decide, fun h => absurd h (by decide), Or.inl ⟨rfl, qv_in1 (List.mem_of_getElem? (i := 148) rfl)⟩⟩
set_option maxRecDepth 100000 in
theorem qv_f136 : qv_F 17 75 1 2 0 := Or.inr ⟨by decide, "OneRoof$Folk", 7, rfl, by decide, fun h => absurd h (by decide), Or.inl ⟨rfl, qv_in1 (List.mem_of_getElem? (i := 46) rfl)⟩⟩
set_option maxRecDepth 100000 in
theorem qv_f137 : qv_F 17 80 4 0 0 := Or.inr ⟨by decide, "OneRoof$Peaces", 8, rfl, by decide, fun h => absurd h (by decide), Or.inl ⟨rfl, qv_in1 (List.mem_of_getElem? (i := 136) rfl)⟩⟩
set_option maxRecDepth 100000 in
theorem qv_f138 : qv_F 20 15 12 0 0 := Or.inr ⟨by decide, "OneRoofModel", 63, rfl, by decide, fun _ => rfl, Or.inl ⟨rfl, qv_in5 (List.mem_of_getElem? (i := 224) rfl)⟩⟩
set_option maxRecDepth 100000 in
theorem qv_f139 : qv_F 20 19 12 1 0 := Or.inr ⟨by decide, "OneRoofModel", 63, rfl, by decide, fun _ => rfl, Or.inl ⟨rfl, qv_in5 (List.mem_of_getElem? (i := 225) rfl)⟩⟩
set_option maxRecDepth 100000 in
theorem qv_f140 : qv_F 20 22 12 2 0 := Or.inr ⟨by decide, "OneRoofModel", 63, rfl, by decide, fun _ => rfl, Or.inl ⟨rfl, qv_in5 (List.mem_of_getElem? (i := 226) rfl)⟩⟩
set_option maxRecDepth 100000 in
theorem qv_f141 : qv_F 20 25 12 3 0 := Or.inr ⟨by decide, "OneRoofModel", 63, rfl, by decide, fun _ => rfl, Or.inl ⟨rfl, qv_in5 (List.mem_of_getElem? (i := 227) rfl)⟩⟩
set_option maxRecDepth 100000 in
theorem qv_f142 : qv_F 20 28 12 7 0 := Or.inr ⟨by decide, "OneRoofModel", 63, rfl, by decide, fun _ => rfl, Or.inl ⟨rfl, qv_in5 (List.mem_of_getElem? (i := 231) rfl)⟩⟩
set_option maxRecDepth 100000 in
theorem qv_f143 : qv_F 20 31 12 8 0 := Or.inr ⟨by decide, "OneRoofModel", 63, rfl, by decide, fun _ => rfl, Or.inl ⟨rfl, qv_in5 (List.mem_of_getElem? (i := 232) rfl)⟩⟩
set_option maxRecDepth 100000 in
theorem qv_f144 : qv_F 20 34 12 9 0 := Or.inr ⟨by decide, "OneRoofModel", 63, rfl, by decide, fun _ => rfl, Or.inl ⟨rfl, qv_in5 (List.mem_of_getElem? (i := 233) rfl)⟩⟩
set_option maxRecDepth 100000 in
theorem qv_f145 : qv_F 20 37 12 12 0 := Or.inr ⟨by decide, "OneRoofModel", 63, rfl, by decide, fun _ => rfl, Or.inl ⟨rfl, qv_in5 (List.mem_of_getElem? (i := 236) rfl)⟩⟩
set_option maxRecDepth 100000 in
theorem qv_f146 : qv_F 20 40 12 13 0 := Or.inr ⟨by decide, "OneRoofModel", 63, rfl, by decide, fun _ => rfl, Or.inl ⟨rfl, qv_in5 (List.mem_of_getElem? (i := 237) rfl)⟩⟩
set_option maxRecDepth 100000 in
theorem qv_f147 : qv_F 20 43 12 14 0 := Or.inr ⟨by decide, "OneRoofModel", 63, rfl, by decide, fun _ => rfl, Or.inl ⟨rfl, qv_in5 (List.mem_of_getElem? (i := 238) rfl)⟩⟩
set_option maxRecDepth 100000 in
theorem qv_f148 : qv_F 20 46 12 17 0 := Or.inr ⟨by decide, "OneRoofModel", 63, rfl, by decide, fun _ => rfl, Or.inl ⟨rfl, qv_in6 (List.mem_of_getElem? (i := 1) rfl)⟩⟩
set_option maxRecDepth 100000 in
theorem qv_f149 : qv_F 20 49 12 18 0 := Or.inr ⟨by decide, "OneRoofModel", 63, rfl, by decide, fun _ => rfl, Or.inl ⟨rfl, qv_in6 (List.mem_of_getElem? (i := 2) rfl)⟩⟩
set_option maxRecDepth 100000 in
theorem qv_f150 : qv_F 20 52 12 19 0 := Or.inr ⟨by decide, "OneRoofModel", 63, rfl, by decide, fun _ => rfl, Or.inl ⟨rfl, qv_in6 (List.mem_of_getElem? (i := 3) rfl)⟩⟩
set_option maxRecDepth 100000 in
theorem qv_f151 : qv_F 20 55 12 20 0 := Or.inr ⟨by decide, "OneRoofModel", 63, rfl, by decide, fun _ => rfl, Or.inl ⟨rfl, qv_in6 (List.mem_of_getElem? (i := 4) rfl)⟩⟩
set_option maxRecDepth 100000 in
theorem qv_f152 : qv_F 20 58 12 21 0 := Or.inr ⟨by decide, "OneRoofModel", 63, rfl, by decide, fun _ => rfl, Or.inl ⟨rfl, qv_in6 (List.mem_of_getElem? (i := 5) rfl)⟩⟩
set_option maxRecDepth 100000 in
theorem qv_f153 : qv_F 20 61 12 25 0 := Or.inr ⟨by decide, "OneRoofModel", 63, rfl, by decide, fun _ => rfl, Or.inl ⟨rfl, qv_in6 (List.mem_of_getElem? (i := 9) rfl)⟩⟩
set_option maxRecDepth 100000 in
theorem qv_f154 : qv_F 20 64 12 26 0 := Or.inr ⟨by decide, "OneRoofModel", 63, rfl, by decide, fun _ => rfl, Or.inl ⟨rfl, qv_in6 (List.mem_of_getElem? (i := 10) rfl)⟩⟩
set_option maxRecDepth 100000 in
theorem qv_f155 : qv_F 20 67 12 27 0 := Or.inr ⟨by decide, "OneRoofModel", 63, rfl, by decide, fun _ => rfl, Or.inl ⟨rfl, qv_in6 (List.mem_of_getElem? (i := 11) rfl)⟩⟩
set_option maxRecDepth 100000 in
theorem qv_f156 : qv_F 20 70 12 28 0 := Or.inr ⟨by decide, "OneRoofModel", 63, rfl, by decide, fun _ => rfl, Or.inl ⟨rfl, qv_in6 (List.mem_of_getElem? (i := 12) rfl)⟩⟩
set_option maxRecDepth 100000 in
theorem qv_f157 : qv_F 20 73 12 31 0 := Or.inr ⟨by decide, "OneRoofModel", 63, rfl, by decide, fun _ => rfl, Or.inl ⟨rfl, qv_in6 (List.mem_of_getElem? (i := 15) rfl)⟩⟩
set_option maxRecDepth 100000 in
theorem qv_f158 : qv_F 20 76 12 33 0 := Or.inr ⟨by decide, "OneRoofModel", 63, rfl, by decide, fun _ => rfl, Or.inl ⟨rfl, qv_in6 (List.mem_of_getElem? (i := 17) rfl)⟩⟩
set_option maxRecDepth 100000 in
theorem qv_f159 : qv_F 20 79 12 34 0 := Or.inr ⟨by decide, "OneRoofModel", 63, rfl, by decide, fun _ => rfl, Or.inl ⟨rfl, qv_in6 (List.mem_of_getElem? (i := 18) rfl)⟩⟩
set_option maxRecDepth 100000 in
theorem qv_f160 : qv_F 20 82 12 40 0 := Or.inr ⟨by decide, "OneRoofModel", 63, rfl, by decide, fun _ => rfl, Or.inl ⟨rfl, qv_in6 (List.mem_of_getElem? (i := 24) rfl)⟩⟩
set_option maxRecDepth 100000 in
theorem qv_f161 : qv_F 20 85 12 42 0 := Or.inr ⟨by decide, "OneRoofModel", 63, rfl, by decide, fun _ => rfl, Or.inl ⟨rfl, qv_in6 (List.mem_of_getElem? (i := 26) rfl)⟩⟩
set_option maxRecDepth 100000 in
theorem qv_f162 : qv_F 20 88 12 44 0 := Or.inr ⟨by decide, "OneRoofModel", 63, rfl, by decide, fun _ => rfl, Or.inl ⟨rfl, qv_in6 (List.mem_of_getElem? (i := 28) rfl)⟩⟩
set_option maxRecDepth 100000 in
theorem qv_f163 : qv_F 20 91 12 45 0 := Or.inr ⟨by decide, "OneRoofModel", 63, rfl, by decide, fun _ => rfl, Or.inl ⟨rfl, qv_in6 (List.mem_of_getElem? (i := 29) rfl)⟩⟩
set_option maxRecDepth 100000 in
theorem qv_f164 : qv_F 20 94 12 46 0 := Or.inr ⟨by decide, "OneRoofModel", 63, rfl, by decide, fun _ => rfl, Or.inl ⟨rfl, qv_in6 (List.mem_of_getElem? (i := 30) rfl)⟩⟩
set_option maxRecDepth 100000 in
theorem qv_f165 : qv_F 20 97 12 47 0 := Or.inr ⟨by decide, "OneRoofModel", 63, rfl, by decide, fun _ => rfl, Or.inl ⟨rfl, qv_in6 (List.mem_of_getElem? (i := 31) rfl)⟩⟩
set_option maxRecDepth 100000 in
theorem qv_f166 : qv_F 20 100 12 48 0 := Or.inr ⟨by decide, "OneRoofModel", 63, rfl, by decide, fun _ => rfl, Or.inl ⟨rfl, qv_in6 (List.mem_of_getElem? (i := 32) rfl)⟩⟩
set_option maxRecDepth 100000 in
theorem qv_f167 : qv_F 20 103 12 49 0 := Or.inr ⟨by decide, "OneRoofModel", 63, rfl, by decide, fun _ => rfl, Or.inl ⟨rfl, qv_in6 (List.mem_of_getElem? (i := 33) rfl)⟩⟩
set_option maxRecDepth 100000 in
theorem qv_f168 : qv_F 20 108 12 51 0 := Or.inr ⟨by decide, "OneRoofModel", 63, rfl, by decide, fun _ => rfl, Or.inl ⟨rfl, qv_in6 (List.mem_of_getElem? (i := 35) rfl)⟩⟩
set_option maxRecDepth 100000 in
theorem qv_f169 : qv_F 20 112 12 52 0 := Or.inr ⟨by decide, "OneRoofModel", 63, rfl, by decide, fun _ => rfl, Or.inl ⟨rfl, qv_in6 (List.mem_of_getElem? (i := 36) rfl)⟩⟩
set_option maxRecDepth 100000 in
theorem qv_f170 : qv_F 20 115 12 53 0 := Or.inr ⟨by decide, "OneRoofModel", 63, rfl, by decide, fun _ => rfl, Or.inl ⟨rfl, qv_in6 (List.mem_of_getElem? (i := 37) rfl)⟩⟩
set_option maxRecDepth 100000 in
theorem qv_f171 : qv_F 20 118 12 54 0 := Or.inr ⟨by decide, "OneRoofModel", 63, rfl, by decide, fun _ => rfl, Or.inl ⟨rfl, qv_in6 (List.mem_of_getElem? (i := 38) rfl)⟩⟩
set_option maxRecDepth 100000 in
theorem qv_f172 : qv_F 20 122 12 55 0 := Or.inr ⟨by decide, "OneRoofModel", 63, rfl, by decide, fun _ => rfl, Or.inl ⟨rfl, qv_in6 (List.mem_of_getElem? (i := 39) rfl)⟩⟩
set_option maxRecDepth 100000 in
theorem qv_f173 : qv_F 20 125 12 59 0 := Or.inr ⟨by decide, "OneRoofModel", 63, rfl, by decide, fun _ => rfl, Or.inl ⟨rfl, qv_in6 (List.mem_of_getElem? (i := 43) rfl)⟩⟩
set_option maxRecDepth 100000 in
theorem qv_f174 : qv_F 20 128 12 60 0 := Or.inr ⟨by decide, "OneRoofModel", 63, rfl, by decide, fun _ => rfl, Or.inl ⟨rfl, qv_in6 (List.mem_of_getElem? (i := 44) rfl)⟩⟩
set_option maxRecDepth 100000 in
theorem qv_f175 : qv_F 20 131 12 61 0 := Or.inr ⟨by decide, "OneRoofModel", 63, rfl, by decide, fun _ => rfl, Or.inl ⟨rfl, qv_in6 (List.mem_of_getElem? (i := 45) rfl)⟩⟩
set_option maxRecDepth 100000 in
theorem qv_f176 : qv_F 20 135 12 62 0 := Or.inr ⟨by decide, "OneRoofModel", 63, rfl, by decide, fun _ => rfl, Or.inl ⟨rfl, qv_in6 (List.mem_of_getElem? (i := 46) rfl)⟩⟩
set_option maxRecDepth 100000 in
theorem qv_f177 : qv_F 20 138 12 5 0 := Or.inr ⟨by decide, "OneRoofModel", 63, rfl, by decide, fun _ => rfl, Or.inl ⟨rfl, qv_in5 (List.mem_of_getElem? (i := 229) rfl)⟩⟩
set_option maxRecDepth 100000 in
theorem qv_f178 : qv_F 20 142 12 4 0 := Or.inr ⟨by decide, "OneRoofModel", 63, rfl, by decide, fun _ => rfl, Or.inl ⟨rfl, qv_in5 (List.mem_of_getElem? (i := 228) rfl)⟩⟩
set_option maxRecDepth 100000 in
theorem qv_f179 : qv_F 20 145 12 6 0 := Or.inr ⟨by decide, "OneRoofModel", 63, rfl, by decide, fun _ => rfl, Or.inl ⟨rfl, qv_in5 (List.mem_of_getElem? (i := 230) rfl)⟩⟩
set_option maxRecDepth 100000 in
theorem qv_f180 : qv_F 20 154 12 15 0 := Or.inr ⟨by decide, "OneRoofModel", 63, rfl, by decide, fun _ => rfl, Or.inl ⟨rfl, qv_in5 (List.mem_of_getElem? (i := 239) rfl)⟩⟩
set_option maxRecDepth 100000 in
theorem qv_f181 : qv_F 20 168 12 10 0 := Or.inr ⟨by decide, "OneRoofModel", 63, rfl, by decide, fun _ => rfl, Or.inl ⟨rfl, qv_in5 (List.mem_of_getElem? (i := 234) rfl)⟩⟩
set_option maxRecDepth 100000 in
theorem qv_f182 : qv_F 20 181 12 11 0 := Or.inr ⟨by decide, "OneRoofModel", 63, rfl, by decide, fun _ => rfl, Or.inl ⟨rfl, qv_in5 (List.mem_of_getElem? (i := 235) rfl)⟩⟩
set_option maxRecDepth 100000 in
theorem qv_f183 : qv_F 20 205 12 16 0 := Or.inr ⟨by decide, "OneRoofModel", 63, rfl, by decide, fun _ => rfl, Or.inl ⟨rfl, qv_in6 (List.mem_of_getElem? (i := 0) rfl)⟩⟩
set_option maxRecDepth 100000 in
theorem qv_f184 : qv_F 20 210 12 22 0 := Or.inr ⟨by decide, "OneRoofModel", 63, rfl, by decide, fun _ => rfl, Or.inl ⟨rfl, qv_in6 (List.mem_of_getElem? (i := 6) rfl)⟩⟩
set_option maxRecDepth 100000 in
theorem qv_f185 : qv_F 20 219 12 23 0 := Or.inr ⟨by decide, "OneRoofModel", 63, rfl, by decide, fun _ => rfl, Or.inl ⟨rfl, qv_in6 (List.mem_of_getElem? (i := 7) rfl)⟩⟩
set_option maxRecDepth 100000 in
theorem qv_f186 : qv_F 20 225 12 24 0 := Or.inr ⟨by decide, "OneRoofModel", 63, rfl, by decide, fun _ => rfl, Or.inl ⟨rfl, qv_in6 (List.mem_of_getElem? (i := 8) rfl)⟩⟩
set_option maxRecDepth 100000 in
theorem qv_f187 : qv_F 20 247 12 29 0 := Or.inr ⟨by decide, "OneRoofModel", 63, rfl, by decide, fun _ => rfl, Or.inl ⟨rfl, qv_in6 (List.mem_of_getElem? (i := 13) rfl)⟩⟩
set_option maxRecDepth 100000 in
theorem qv_f188 : qv_F 20 257 12 30 0 := Or.inr ⟨by decide, "OneRoofModel", 63, rfl, by decide, fun _ => rfl, Or.inl ⟨rfl, qv_in6 (List.mem_of_getElem? (i := 14) rfl)⟩⟩
set_option maxRecDepth 100000 in
theorem qv_f189 : qv_F 20 265 12 32 0 := Or.inr ⟨by decide, "OneRoofModel", 63, rfl, by decide, fun _ => rfl, Or.inl ⟨rfl, qv_in6 (List.mem_of_getElem? (i := 16) rfl)⟩⟩
set_option maxRecDepth 100000 in
theorem qv_f190 : qv_F 20 268 12 36 0 := Or.inr ⟨by decide, "OneRoofModel", 63, rfl, by decide, fun _ => rfl, Or.inl ⟨rfl, qv_in6 (List.mem_of_getElem? (i := 20) rfl)⟩⟩
set_option maxRecDepth 100000 in
theorem qv_f191 : qv_F 20 271 12 37 0 := Or.inr ⟨by decide, "OneRoofModel", 63, rfl, by decide, fun _ => rfl, Or.inl ⟨rfl, qv_in6 (List.mem_of_getElem? (i := 21) rfl)⟩⟩
set_option maxRecDepth 100000 in
theorem qv_f192 : qv_F 20 274 12 35 0 := Or.inr ⟨by decide, "OneRoofModel", 63, rfl, by decide, fun _ => rfl, Or.inl ⟨rfl, qv_in6 (List.mem_of_getElem? (i := 19) rfl)⟩⟩
set_option maxRecDepth 100000 in
theorem qv_f193 : qv_F 20 277 12 38 0 := Or.inr ⟨by decide, "OneRoofModel", 63, rfl, by decide, fun _ => rfl, Or.inl ⟨rfl, qv_in6 (List.mem_of_getElem? (i := 22) rfl)⟩⟩
set_option maxRecDepth 100000 in
theorem qv_f194 : qv_F 20 302 12 39 0 := Or.inr ⟨by decide, "OneRoofModel", 63, rfl, by decide, fun _ => rfl, Or.inl ⟨rfl, qv_in6 (List.mem_of_getElem? (i := 23) rfl)⟩⟩
set_option maxRecDepth 100000 in
theorem qv_f195 : qv_F 20 317 12 41 0 := Or.inr ⟨by decide, "OneRoofModel", 63, rfl, by decide, fun _ => rfl, Or.inl ⟨rfl, qv_in6 (List.mem_of_getElem? (i := 25) rfl)⟩⟩
set_option maxRecDepth 100000 in
theorem qv_f196 : qv_F 20 345 12 43 0 := Or.inr ⟨by decide, "OneRoofModel", 63, rfl, by decide, fun _ => rfl, Or.inl ⟨rfl, qv_in6 (List.mem_of_getElem? (i := 27) rfl)⟩⟩
set_option maxRecDepth 100000 in
theorem qv_f197 : qv_F 20 379 12 50 0 := Or.inr ⟨by decide, "OneRoofModel", 63, rfl, by decide, fun _ => rfl, Or.inl ⟨rfl, qv_in6 (List.mem_of_getElem? (i := 34) rfl)⟩⟩
set_option maxRecDepth 100000 in
theorem qv_f198 : qv_F 20 402 12 56 0 := Or.inr ⟨by decide, "OneRoofModel", 63, rfl, by decide, fun _ => rfl, Or.inl ⟨rfl, qv_in6 (List.mem_of_getElem? (i := 40) rfl)⟩⟩
set_option maxRecDepth 100000 in
theorem qv_f199 : qv_F 20 411 12 57 0 := Or.inr ⟨by decide, "OneRoofModel", 63, rfl, by decide, fun _ => rfl, Or.inl ⟨rfl, qv_in6 (List.mem_of_getElem? (i := 41) rfl)⟩⟩
set_option maxRecDepth 100000 in
theorem qv_f200 : qv_F 20 417 12 58 0 := Or.inr ⟨by decide, "OneRoofModel", 63, rfl, by decide, fun _ => rfl, Or.inl ⟨rfl, qv_in6 (List.mem_of_getElem? (i := 42) rfl)⟩⟩
def qv_fl_0 : List (Nat × Nat × Nat × Nat × Nat) := [(1, 10, 0, 0, 0), (1, 19, 0, 1, 0), (1, 23, 0, 2, 0), (1, 29, 0, 3, 0), (1, 36, 0, 4, 0), (1, 43, 0, 5, 0), (1, 50, 0, 6, 0), (1, 63, 0, 7, 0)]
theorem qv_fl_0_ok : ∀ e ∈ qv_fl_0, qv_F e.1 e.2.1 e.2.2.1 e.2.2.2.1 e.2.2.2.2 := List.forall_mem_cons.mpr ⟨qv_f0, List.forall_mem_cons.mpr ⟨qv_f1, List.forall_mem_cons.mpr ⟨qv_f2, List.forall_mem_cons.mpr ⟨qv_f3, List.forall_mem_cons.mpr ⟨qv_f4, List.forall_mem_cons.mpr ⟨qv_f5, List.forall_mem_cons.mpr ⟨qv_f6, List.forall_mem_cons.mpr ⟨qv_f7, fun _ h => absurd h List.not_mem_nil⟩⟩⟩⟩⟩⟩⟩⟩
def qv_fl_1 : List (Nat × Nat × Nat × Nat × Nat) := [(1, 72, 0, 8, 0), (1, 81, 0, 9, 0), (1, 88, 0, 10, 0), (1, 92, 0, 11, 0), (1, 100, 0, 12, 0), (1, 104, 0, 13, 0), (1, 110, 0, 14, 0), (1, 114, 0, 15, 0)]
theorem qv_fl_1_ok : ∀ e ∈ qv_fl_1, qv_F e.1 e.2.1 e.2.2.1 e.2.2.2.1 e.2.2.2.2 := List.forall_mem_cons.mpr ⟨qv_f8, List.forall_mem_cons.mpr ⟨qv_f9, List.forall_mem_cons.mpr ⟨qv_f10, List.forall_mem_cons.mpr ⟨qv_f11, List.forall_mem_cons.mpr ⟨qv_f12, List.forall_mem_cons.mpr ⟨qv_f13, List.forall_mem_cons.mpr ⟨qv_f14, List.forall_mem_cons.mpr ⟨qv_f15, fun _ h => absurd h List.not_mem_nil⟩⟩⟩⟩⟩⟩⟩⟩
def qv_fl_2 : List (Nat × Nat × Nat × Nat × Nat) := [(1, 122, 1, 6, 0), (1, 144, 6, 1, 0), (1, 152, 1, 0, 0), (1, 155, 1, 1, 0), (1, 158, 1, 2, 0), (1, 161, 1, 5, 0), (1, 179, 2, 1, 0), (1, 190, 3, 7, 0)]
theorem qv_fl_2_ok : ∀ e ∈ qv_fl_2, qv_F e.1 e.2.1 e.2.2.1 e.2.2.2.1 e.2.2.2.2 := List.forall_mem_cons.mpr ⟨qv_f16, List.forall_mem_cons.mpr ⟨qv_f17, List.forall_mem_cons.mpr ⟨qv_f18, List.forall_mem_cons.mpr ⟨qv_f19, List.forall_mem_cons.mpr ⟨qv_f20, List.forall_mem_cons.mpr ⟨qv_f21, List.forall_mem_cons.mpr ⟨qv_f22, List.forall_mem_cons.mpr ⟨qv_f23, fun _ h => absurd h List.not_mem_nil⟩⟩⟩⟩⟩⟩⟩⟩
def qv_fl_3 : List (Nat × Nat × Nat × Nat × Nat) := [(1, 202, 4, 7, 0), (1, 207, 4, 0, 0), (1, 210, 4, 1, 0), (1, 213, 4, 2, 0), (1, 216, 4, 3, 0), (1, 219, 4, 4, 0), (1, 222, 4, 6, 0), (1, 301, 1, 3, 0)]
theorem qv_fl_3_ok : ∀ e ∈ qv_fl_3, qv_F e.1 e.2.1 e.2.2.1 e.2.2.2.1 e.2.2.2.2 := List.forall_mem_cons.mpr ⟨qv_f24, List.forall_mem_cons.mpr ⟨qv_f25, List.forall_mem_cons.mpr ⟨qv_f26, List.forall_mem_cons.mpr ⟨qv_f27, List.forall_mem_cons.mpr ⟨qv_f28, List.forall_mem_cons.mpr ⟨qv_f29, List.forall_mem_cons.mpr ⟨qv_f30, List.forall_mem_cons.mpr ⟨qv_f31, fun _ h => absurd h List.not_mem_nil⟩⟩⟩⟩⟩⟩⟩⟩
def qv_fl_4 : List (Nat × Nat × Nat × Nat × Nat) := [(1, 315, 10, 3, 0), (1, 318, 10, 5, 0), (1, 321, 10, 4, 0), (1, 324, 10, 2, 0), (1, 327, 10, 1, 0), (1, 351, 5, 1, 0), (1, 354, 5, 0, 0), (1, 374, 6, 0, 0)]
theorem qv_fl_4_ok : ∀ e ∈ qv_fl_4, qv_F e.1 e.2.1 e.2.2.1 e.2.2.2.1 e.2.2.2.2 := List.forall_mem_cons.mpr ⟨qv_f32, List.forall_mem_cons.mpr ⟨qv_f33, List.forall_mem_cons.mpr ⟨qv_f34, List.forall_mem_cons.mpr ⟨qv_f35, List.forall_mem_cons.mpr ⟨qv_f36, List.forall_mem_cons.mpr ⟨qv_f37, List.forall_mem_cons.mpr ⟨qv_f38, List.forall_mem_cons.mpr ⟨qv_f39, fun _ h => absurd h List.not_mem_nil⟩⟩⟩⟩⟩⟩⟩⟩
def qv_fl_5 : List (Nat × Nat × Nat × Nat × Nat) := [(1, 391, 11, 7, 0), (2, 9, 1, 0, 0), (2, 15, 1, 1, 0), (2, 18, 1, 2, 0), (2, 21, 1, 3, 0), (2, 24, 1, 4, 0), (2, 28, 1, 5, 0), (2, 32, 1, 6, 0)]
theorem qv_fl_5_ok : ∀ e ∈ qv_fl_5, qv_F e.1 e.2.1 e.2.2.1 e.2.2.2.1 e.2.2.2.2 := List.forall_mem_cons.mpr ⟨qv_f40, List.forall_mem_cons.mpr ⟨qv_f41, List.forall_mem_cons.mpr ⟨qv_f42, List.forall_mem_cons.mpr ⟨qv_f43, List.forall_mem_cons.mpr ⟨qv_f44, List.forall_mem_cons.mpr ⟨qv_f45, List.forall_mem_cons.mpr ⟨qv_f46, List.forall_mem_cons.mpr ⟨qv_f47, fun _ h => absurd h List.not_mem_nil⟩⟩⟩⟩⟩⟩⟩⟩
def qv_fl_6 : List (Nat × Nat × Nat × Nat × Nat) := [(3, 9, 2, 0, 0), (3, 15, 2, 1, 0), (5, 11, 3, 0, 0), (5, 15, 3, 1, 0), (5, 18, 3, 2, 0), (5, 21, 3, 3, 0), (5, 24, 3, 4, 0), (5, 27, 3, 5, 0)]
theorem qv_fl_6_ok : ∀ e ∈ qv_fl_6, qv_F e.1 e.2.1 e.2.2.1 e.2.2.2.1 e.2.2.2.2 := List.forall_mem_cons.mpr ⟨qv_f48, List.forall_mem_cons.mpr ⟨qv_f49, List.forall_mem_cons.mpr ⟨qv_f50, List.forall_mem_cons.mpr ⟨qv_f51, List.forall_mem_cons.mpr ⟨qv_f52, List.forall_mem_cons.mpr ⟨qv_f53, List.forall_mem_cons.mpr ⟨qv_f54, List.forall_mem_cons.mpr ⟨qv_f55, fun _ h => absurd h List.not_mem_nil⟩⟩⟩⟩⟩⟩⟩⟩
def qv_fl_7 : List (Nat × Nat × Nat × Nat × Nat) := [(5, 30, 3, 6, 0), (5, 34, 3, 7, 0), (5, 38, 2, 0, 1), (6, 9, 4, 0, 0), (6, 15, 4, 1, 0), (6, 18, 4, 2, 0), (6, 21, 4, 3, 0), (6, 24, 4, 4, 0)]
theorem qv_fl_7_ok : ∀ e ∈ qv_fl_7, qv_F e.1 e.2.1 e.2.2.1 e.2.2.2.1 e.2.2.2.2 := List.forall_mem_cons.mpr ⟨qv_f56, List.forall_mem_cons.mpr ⟨qv_f57, List.forall_mem_cons.mpr ⟨qv_f58, List.forall_mem_cons.mpr ⟨qv_f59, List.forall_mem_cons.mpr ⟨qv_f60, List.forall_mem_cons.mpr ⟨qv_f61, List.forall_mem_cons.mpr ⟨qv_f62, List.forall_mem_cons.mpr ⟨qv_f63, fun _ h => absurd h List.not_mem_nil⟩⟩⟩⟩⟩⟩⟩⟩
def qv_fl_8 : List (Nat × Nat × Nat × Nat × Nat) := [(6, 27, 4, 5, 0), (6, 30, 4, 6, 0), (6, 34, 4, 7, 0), (6, 38, 1, 4, 0), (7, 7, 5, 0, 0), (7, 13, 5, 1, 0), (8, 11, 6, 0, 0), (8, 15, 6, 1, 0)]
theorem qv_fl_8_ok : ∀ e ∈ qv_fl_8, qv_F e.1 e.2.1 e.2.2.1 e.2.2.2.1 e.2.2.2.2 := List.forall_mem_cons.mpr ⟨qv_f64, List.forall_mem_cons.mpr ⟨qv_f65, List.forall_mem_cons.mpr ⟨qv_f66, List.forall_mem_cons.mpr ⟨qv_f67, List.forall_mem_cons.mpr ⟨qv_f68, List.forall_mem_cons.mpr ⟨qv_f69, List.forall_mem_cons.mpr ⟨qv_f70, List.forall_mem_cons.mpr ⟨qv_f71, fun _ h => absurd h List.not_mem_nil⟩⟩⟩⟩⟩⟩⟩⟩
def qv_fl_9 : List (Nat × Nat × Nat × Nat × Nat) := [(8, 18, 6, 2, 0), (8, 21, 6, 3, 0), (9, 9, 7, 0, 0), (9, 15, 7, 1, 0), (9, 18, 7, 2, 0), (9, 21, 7, 3, 0), (9, 25, 7, 4, 0), (9, 28, 7, 5, 0)]
theorem qv_fl_9_ok : ∀ e ∈ qv_fl_9, qv_F e.1 e.2.1 e.2.2.1 e.2.2.2.1 e.2.2.2.2 := List.forall_mem_cons.mpr ⟨qv_f72, List.forall_mem_cons.mpr ⟨qv_f73, List.forall_mem_cons.mpr ⟨qv_f74, List.forall_mem_cons.mpr ⟨qv_f75, List.forall_mem_cons.mpr ⟨qv_f76, List.forall_mem_cons.mpr ⟨qv_f77, List.forall_mem_cons.mpr ⟨qv_f78, List.forall_mem_cons.mpr ⟨qv_f79, fun _ h => absurd h List.not_mem_nil⟩⟩⟩⟩⟩⟩⟩⟩
def qv_fl_10 : List (Nat × Nat × Nat × Nat × Nat) := [(9, 31, 7, 6, 0), (9, 34, 7, 7, 0), (10, 9, 13, 0, 0), (10, 15, 13, 1, 0), (14, 11, 8, 5, 0), (14, 17, 8, 6, 0), (14, 20, 8, 7, 0), (14, 23, 8, 8, 0)]
theorem qv_fl_10_ok : ∀ e ∈ qv_fl_10, qv_F e.1 e.2.1 e.2.2.1 e.2.2.2.1 e.2.2.2.2 := List.forall_mem_cons.mpr ⟨qv_f80, List.forall_mem_cons.mpr ⟨qv_f81, List.forall_mem_cons.mpr ⟨qv_f82, List.forall_mem_cons.mpr ⟨qv_f83, List.forall_mem_cons.mpr ⟨qv_f84, List.forall_mem_cons.mpr ⟨qv_f85, List.forall_mem_cons.mpr ⟨qv_f86, List.forall_mem_cons.mpr ⟨qv_f87, fun _ h => absurd h List.not_mem_nil⟩⟩⟩⟩⟩⟩⟩⟩
def qv_fl_11 : List (Nat × Nat × Nat × Nat × Nat) := [(14, 27, 8, 9, 0), (14, 30, 8, 10, 0), (14, 34, 8, 11, 0), (14, 38, 8, 12, 0), (14, 41, 8, 0, 0), (14, 45, 8, 1, 0), (14, 49, 8, 2, 0), (14, 53, 8, 3, 0)]
theorem qv_fl_11_ok : ∀ e ∈ qv_fl_11, qv_F e.1 e.2.1 e.2.2.1 e.2.2.2.1 e.2.2.2.2 := List.forall_mem_cons.mpr ⟨qv_f88, List.forall_mem_cons.mpr ⟨qv_f89, List.forall_mem_cons.mpr ⟨qv_f90, List.forall_mem_cons.mpr ⟨qv_f91, List.forall_mem_cons.mpr ⟨qv_f92, List.forall_mem_cons.mpr ⟨qv_f93, List.forall_mem_cons.mpr ⟨qv_f94, List.forall_mem_cons.mpr ⟨qv_f95, fun _ h => absurd h List.not_mem_nil⟩⟩⟩⟩⟩⟩⟩⟩
def qv_fl_12 : List (Nat × Nat × Nat × Nat × Nat) := [(14, 57, 8, 4, 0), (14, 114, 1, 2, 0), (14, 117, 1, 4, 0), (14, 133, 1, 6, 0), (15, 9, 9, 1, 0), (15, 15, 9, 2, 0), (15, 19, 9, 3, 0), (15, 22, 9, 4, 0)]
theorem qv_fl_12_ok : ∀ e ∈ qv_fl_12, qv_F e.1 e.2.1 e.2.2.1 e.2.2.2.1 e.2.2.2.2 := List.forall_mem_cons.mpr ⟨qv_f96, List.forall_mem_cons.mpr ⟨qv_f97, List.forall_mem_cons.mpr ⟨qv_f98, List.forall_mem_cons.mpr ⟨qv_f99, List.forall_mem_cons.mpr ⟨qv_f100, List.forall_mem_cons.mpr ⟨qv_f101, List.forall_mem_cons.mpr ⟨qv_f102, List.forall_mem_cons.mpr ⟨qv_f103, fun _ h => absurd h List.not_mem_nil⟩⟩⟩⟩⟩⟩⟩⟩
def qv_fl_13 : List (Nat × Nat × Nat × Nat × Nat) := [(15, 25, 9, 5, 0), (15, 28, 9, 6, 0), (15, 31, 9, 7, 0), (15, 34, 9, 0, 0), (15, 54, 8, 0, 0), (15, 58, 1, 1, 0), (15, 93, 8, 2, 0), (15, 103, 3, 6, 0)]
theorem qv_fl_13_ok : ∀ e ∈ qv_fl_13, qv_F e.1 e.2.1 e.2.2.1 e.2.2.2.1 e.2.2.2.2 := List.forall_mem_cons.mpr ⟨qv_f104, List.forall_mem_cons.mpr ⟨qv_f105, List.forall_mem_cons.mpr ⟨qv_f106, List.forall_mem_cons.mpr ⟨qv_f107, List.forall_mem_cons.mpr ⟨qv_f108, List.forall_mem_cons.mpr ⟨qv_f109, List.forall_mem_cons.mpr ⟨qv_f110, List.forall_mem_cons.mpr ⟨qv_f111, fun _ h => absurd h List.not_mem_nil⟩⟩⟩⟩⟩⟩⟩⟩
def qv_fl_14 : List (Nat × Nat × Nat × Nat × Nat) := [(15, 128, 8, 1, 0), (15, 139, 1, 3, 0), (16, 11, 10, 1, 0), (16, 15, 10, 2, 0), (16, 19, 10, 3, 0), (16, 23, 10, 4, 0), (16, 26, 10, 5, 0), (16, 29, 10, 6, 0)]
theorem qv_fl_14_ok : ∀ e ∈ qv_fl_14, qv_F e.1 e.2.1 e.2.2.1 e.2.2.2.1 e.2.2.2.2 := List.forall_mem_cons.mpr ⟨qv_f112, List.forall_mem_cons.mpr ⟨qv_f113, List.forall_mem_cons.mpr ⟨qv_f114, List.forall_mem_cons.mpr ⟨qv_f115, List.forall_mem_cons.mpr ⟨qv_f116, List.forall_mem_cons.mpr ⟨qv_f117, List.forall_mem_cons.mpr ⟨qv_f118, List.forall_mem_cons.mpr ⟨qv_f119, fun _ h => absurd h List.not_mem_nil⟩⟩⟩⟩⟩⟩⟩⟩
def qv_fl_15 : List (Nat × Nat × Nat × Nat × Nat) := [(16, 32, 10, 0, 0), (16, 50, 8, 10, 0), (16, 58, 8, 3, 0), (16, 72, 8, 0, 0), (16, 76, 1, 6, 0), (17, 11, 11, 3, 0), (17, 15, 11, 4, 0), (17, 18, 11, 5, 0)]
theorem qv_fl_15_ok : ∀ e ∈ qv_fl_15, qv_F e.1 e.2.1 e.2.2.1 e.2.2.2.1 e.2.2.2.2 := List.forall_mem_cons.mpr ⟨qv_f120, List.forall_mem_cons.mpr ⟨qv_f121, List.forall_mem_cons.mpr ⟨qv_f122, List.forall_mem_cons.mpr ⟨qv_f123, List.forall_mem_cons.mpr ⟨qv_f124, List.forall_mem_cons.mpr ⟨qv_f125, List.forall_mem_cons.mpr ⟨qv_f126, List.forall_mem_cons.mpr ⟨qv_f127, fun _ h => absurd h List.not_mem_nil⟩⟩⟩⟩⟩⟩⟩⟩
def qv_fl_16 : List (Nat × Nat × Nat × Nat × Nat) := [(17, 21, 11, 6, 0), (17, 24, 11, 7, 0), (17, 28, 11, 8, 0), (17, 31, 11, 0, 0), (17, 35, 11, 1, 0), (17, 39, 11, 2, 0), (17, 60, 3, 5, 0), (17, 65, 4, 6, 0)]
theorem qv_fl_16_ok : ∀ e ∈ qv_fl_16, qv_F e.1 e.2.1 e.2.2.1 e.2.2.2.1 e.2.2.2.2 := List.forall_mem_cons.mpr ⟨qv_f128, List.forall_mem_cons.mpr ⟨qv_f129, List.forall_mem_cons.mpr ⟨qv_f130, List.forall_mem_cons.mpr ⟨qv_f131, List.forall_mem_cons.mpr ⟨qv_f132, List.forall_mem_cons.mpr ⟨qv_f133, List.forall_mem_cons.mpr ⟨qv_f134, List.forall_mem_cons.mpr ⟨qv_f135, fun _ h => absurd h List.not_mem_nil⟩⟩⟩⟩⟩⟩⟩⟩
def qv_fl_17 : List (Nat × Nat × Nat × Nat × Nat) := [(17, 75, 1, 2, 0), (17, 80, 4, 0, 0), (20, 15, 12, 0, 0), (20, 19, 12, 1, 0), (20, 22, 12, 2, 0), (20, 25, 12, 3, 0), (20, 28, 12, 7, 0), (20, 31, 12, 8, 0)]
theorem qv_fl_17_ok : ∀ e ∈ qv_fl_17, qv_F e.1 e.2.1 e.2.2.1 e.2.2.2.1 e.2.2.2.2 := List.forall_mem_cons.mpr ⟨qv_f136, List.forall_mem_cons.mpr ⟨qv_f137, List.forall_mem_cons.mpr ⟨qv_f138, List.forall_mem_cons.mpr ⟨qv_f139, List.forall_mem_cons.mpr ⟨qv_f140, List.forall_mem_cons.mpr ⟨qv_f141, List.forall_mem_cons.mpr ⟨qv_f142, List.forall_mem_cons.mpr ⟨qv_f143, fun _ h => absurd h List.not_mem_nil⟩⟩⟩⟩⟩⟩⟩⟩
def qv_fl_18 : List (Nat × Nat × Nat × Nat × Nat) := [(20, 34, 12, 9, 0), (20, 37, 12, 12, 0), (20, 40, 12, 13, 0), (20, 43, 12, 14, 0), (20, 46, 12, 17, 0), (20, 49, 12, 18, 0), (20, 52, 12, 19, 0), (20, 55, 12, 20, 0)]
theorem qv_fl_18_ok : ∀ e ∈ qv_fl_18, qv_F e.1 e.2.1 e.2.2.1 e.2.2.2.1 e.2.2.2.2 := List.forall_mem_cons.mpr ⟨qv_f144, List.forall_mem_cons.mpr ⟨qv_f145, List.forall_mem_cons.mpr ⟨qv_f146, List.forall_mem_cons.mpr ⟨qv_f147, List.forall_mem_cons.mpr ⟨qv_f148, List.forall_mem_cons.mpr ⟨qv_f149, List.forall_mem_cons.mpr ⟨qv_f150, List.forall_mem_cons.mpr ⟨qv_f151, fun _ h => absurd h List.not_mem_nil⟩⟩⟩⟩⟩⟩⟩⟩
def qv_fl_19 : List (Nat × Nat × Nat × Nat × Nat) := [(20, 58, 12, 21, 0), (20, 61, 12, 25, 0), (20, 64, 12, 26, 0), (20, 67, 12, 27, 0), (20, 70, 12, 28, 0), (20, 73, 12, 31, 0), (20, 76, 12, 33, 0), (20, 79, 12, 34, 0)]
theorem qv_fl_19_ok : ∀ e ∈ qv_fl_19, qv_F e.1 e.2.1 e.2.2.1 e.2.2.2.1 e.2.2.2.2 := List.forall_mem_cons.mpr ⟨qv_f152, List.forall_mem_cons.mpr ⟨qv_f153, List.forall_mem_cons.mpr ⟨qv_f154, List.forall_mem_cons.mpr ⟨qv_f155, List.forall_mem_cons.mpr ⟨qv_f156, List.forall_mem_cons.mpr ⟨qv_f157, List.forall_mem_cons.mpr ⟨qv_f158, List.forall_mem_cons.mpr ⟨qv_f159, fun _ h => absurd h List.not_mem_nil⟩⟩⟩⟩⟩⟩⟩⟩
def qv_fl_20 : List (Nat × Nat × Nat × Nat × Nat) := [(20, 82, 12, 40, 0), (20, 85, 12, 42, 0), (20, 88, 12, 44, 0), (20, 91, 12, 45, 0), (20, 94, 12, 46, 0), (20, 97, 12, 47, 0), (20, 100, 12, 48, 0), (20, 103, 12, 49, 0)]
theorem qv_fl_20_ok : ∀ e ∈ qv_fl_20, qv_F e.1 e.2.1 e.2.2.1 e.2.2.2.1 e.2.2.2.2 := List.forall_mem_cons.mpr ⟨qv_f160, List.forall_mem_cons.mpr ⟨qv_f161, List.forall_mem_cons.mpr ⟨qv_f162, List.forall_mem_cons.mpr ⟨qv_f163, List.forall_mem_cons.mpr ⟨qv_f164, List.forall_mem_cons.mpr ⟨qv_f165, List.forall_mem_cons.mpr ⟨qv_f166, List.forall_mem_cons.mpr ⟨qv_f167, fun _ h => absurd h List.not_mem_nil⟩⟩⟩⟩⟩⟩⟩⟩
def qv_fl_21 : List (Nat × Nat × Nat × Nat × Nat) := [(20, 108, 12, 51, 0), (20, 112, 12, 52, 0), (20, 115, 12, 53, 0), (20, 118, 12, 54, 0), (20, 122, 12, 55, 0), (20, 125, 12, 59, 0), (20, 128, 12, 60, 0), (20, 131, 12, 61, 0)]
theorem qv_fl_21_ok : ∀ e ∈ qv_fl_21, qv_F e.1 e.2.1 e.2.2.1 e.2.2.2.1 e.2.2.2.2 := List.forall_mem_cons.mpr ⟨qv_f168, List.forall_mem_cons.mpr ⟨qv_f169, List.forall_mem_cons.mpr ⟨qv_f170, List.forall_mem_cons.mpr ⟨qv_f171, List.forall_mem_cons.mpr ⟨qv_f172, List.forall_mem_cons.mpr ⟨qv_f173, List.forall_mem_cons.mpr ⟨qv_f174, List.forall_mem_cons.mpr ⟨qv_f175, fun _ h => absurd h List.not_mem_nil⟩⟩⟩⟩⟩⟩⟩⟩
def qv_fl_22 : List (Nat × Nat × Nat × Nat × Nat) := [(20, 135, 12, 62, 0), (20, 138, 12, 5, 0), (20, 142, 12, 4, 0), (20, 145, 12, 6, 0), (20, 154, 12, 15, 0), (20, 168, 12, 10, 0), (20, 181, 12, 11, 0), (20, 205, 12, 16, 0)]
theorem qv_fl_22_ok : ∀ e ∈ qv_fl_22, qv_F e.1 e.2.1 e.2.2.1 e.2.2.2.1 e.2.2.2.2 := List.forall_mem_cons.mpr ⟨qv_f176, List.forall_mem_cons.mpr ⟨qv_f177, List.forall_mem_cons.mpr ⟨qv_f178, List.forall_mem_cons.mpr ⟨qv_f179, List.forall_mem_cons.mpr ⟨qv_f180, List.forall_mem_cons.mpr ⟨qv_f181, List.forall_mem_cons.mpr ⟨qv_f182, List.forall_mem_cons.mpr ⟨qv_f183, fun _ h => absurd h List.not_mem_nil⟩⟩⟩⟩⟩⟩⟩⟩
def qv_fl_23 : List (Nat × Nat × Nat × Nat × Nat) := [(20, 210, 12, 22, 0), (20, 219, 12, 23, 0), (20, 225, 12, 24, 0), (20, 247, 12, 29, 0), (20, 257, 12, 30, 0), (20, 265, 12, 32, 0), (20, 268, 12, 36, 0), (20, 271, 12, 37, 0)]
theorem qv_fl_23_ok : ∀ e ∈ qv_fl_23, qv_F e.1 e.2.1 e.2.2.1 e.2.2.2.1 e.2.2.2.2 := List.forall_mem_cons.mpr ⟨qv_f184, List.forall_mem_cons.mpr ⟨qv_f185, List.forall_mem_cons.mpr ⟨qv_f186, List.forall_mem_cons.mpr ⟨qv_f187, List.forall_mem_cons.mpr ⟨qv_f188, List.forall_mem_cons.mpr ⟨qv_f189, List.forall_mem_cons.mpr ⟨qv_f190, List.forall_mem_cons.mpr ⟨qv_f191, fun _ h => absurd h List.not_mem_nil⟩⟩⟩⟩⟩⟩⟩⟩
def qv_fl_24 : List (Nat × Nat × Nat × Nat × Nat) := [(20, 274, 12, 35, 0), (20, 277, 12, 38, 0), (20, 302, 12, 39, 0), (20, 317, 12, 41, 0), (20, 345, 12, 43, 0), (20, 379, 12, 50, 0), (20, 402, 12, 56, 0), (20, 411, 12, 57, 0)]
theorem qv_fl_24_ok : ∀ e ∈ qv_fl_24, qv_F e.1 e.2.1 e.2.2.1 e.2.2.2.1 e.2.2.2.2 := List.forall_mem_cons.mpr ⟨qv_f192, List.forall_mem_cons.mpr ⟨qv_f193, List.forall_mem_cons.mpr ⟨qv_f194, List.forall_mem_cons.mpr ⟨qv_f195, List.forall_mem_cons.mpr ⟨qv_f196, List.forall_mem_cons.mpr ⟨qv_f197, List.forall_mem_cons.mpr ⟨qv_f198, List.forall_mem_cons.mpr ⟨qv_f199, fun _ h => absurd h List.not_mem_nil⟩⟩⟩⟩⟩⟩⟩⟩
def qv_fl_25 : List (Nat × Nat × Nat × Nat × Nat) := [(20, 417, 12, 58, 0)]
theorem qv_fl_25_ok : ∀ e ∈ qv_fl_25, qv_F e.1 e.2.1 e.2.2.1 e.2.2.2.1 e.2.2.2.2 := List.forall_mem_cons.mpr ⟨qv_f200, fun _ h => absurd h List.not_mem_nil⟩
def qv_flp (k : Nat) : List (Nat × Nat × Nat × Nat × Nat) := (bif Nat.blt k 983065 then (bif Nat.blt k 196617 then (bif Nat.blt k 65738 then (bif Nat.blt k 65608 then qv_fl_0 else (bif Nat.blt k 65658 then qv_fl_1 else qv_fl_2)) else (bif Nat.blt k 65851 then qv_fl_3 else (bif Nat.blt k 65927 then qv_fl_4 else qv_fl_5))) else (bif Nat.blt k 524306 then (bif Nat.blt k 327710 then qv_fl_6 else (bif Nat.blt k 393243 then qv_fl_7 else qv_fl_8)) else (bif Nat.blt k 917531 then (bif Nat.blt k 589855 then qv_fl_9 else qv_fl_10) else (bif Nat.blt k 917561 then qv_fl_11 else qv_fl_12)))) else (bif Nat.blt k 1310778 then (bif Nat.blt k 1114133 then (bif Nat.blt k 983168 then qv_fl_13 else (bif Nat.blt k 1048608 then qv_fl_14 else qv_fl_15)) else (bif Nat.blt k 1114187 then qv_fl_16 else (bif Nat.blt k 1310754 then qv_fl_17 else qv_fl_18))) else (bif Nat.blt k 1310855 then (bif Nat.blt k 1310802 then qv_fl_19 else (bif Nat.blt k 1310828 then qv_fl_20 else qv_fl_21)) else (bif Nat.blt k 1310994 then (bif Nat.blt k 1310930 then qv_fl_22 else qv_fl_23) else (bif Nat.blt k 1311137 then qv_fl_24 else qv_fl_25)))))
theorem qv_flp_ok (k : Nat) : ∀ e ∈ qv_flp k, qv_F e.1 e.2.1 e.2.2.1 e.2.2.2.1 e.2.2.2.2 := (qd_cond (qd_cond (qd_cond (qd_cond qv_fl_0_ok (qd_cond qv_fl_1_ok qv_fl_2_ok)) (qd_cond qv_fl_3_ok (qd_cond qv_fl_4_ok qv_fl_5_ok))) (qd_cond (qd_cond qv_fl_6_ok (qd_cond qv_fl_7_ok qv_fl_8_ok)) (qd_cond (qd_cond qv_fl_9_ok qv_fl_10_ok) (qd_cond qv_fl_11_ok qv_fl_12_ok)))) (qd_cond (qd_cond (qd_cond qv_fl_13_ok (qd_cond qv_fl_14_ok qv_fl_15_ok)) (qd_cond qv_fl_16_ok (qd_cond qv_fl_17_ok qv_fl_18_ok))) (qd_cond (qd_cond qv_fl_19_ok (qd_cond qv_fl_20_ok qv_fl_21_ok)) (qd_cond (qd_cond qv_fl_22_ok qv_fl_23_ok) (qd_cond qv_fl_24_ok qv_fl_25_ok)))))
set_option maxRecDepth 20000 in
theorem qv_e1 : qm_ent 1 = some qx_e1 := rfl
set_option maxRecDepth 20000 in
theorem qv_e2 : qm_ent 2 = some qx_e2 := rfl
set_option maxRecDepth 20000 in
theorem qv_e3 : qm_ent 3 = some qx_e3 := rfl
set_option maxRecDepth 20000 in
theorem qv_e4 : qm_ent 4 = some qx_e4 := rfl
set_option maxRecDepth 20000 in
theorem qv_e5 : qm_ent 5 = some qx_e5 := rfl
set_option maxRecDepth 20000 in
theorem qv_e6 : qm_ent 6 = some qx_e6 := rfl
set_option maxRecDepth 20000 in
theorem qv_e7 : qm_ent 7 = some qx_e7 := rfl
set_option maxRecDepth 20000 in
theorem qv_e8 : qm_ent 8 = some qx_e8 := rfl
set_option maxRecDepth 20000 in
theorem qv_e9 : qm_ent 9 = some qx_e9 := rfl
set_option maxRecDepth 20000 in
theorem qv_e10 : qm_ent 10 = some qx_e10 := rfl
set_option maxRecDepth 20000 in
theorem qv_e11 : qm_ent 11 = some qx_e11 := rfl
set_option maxRecDepth 20000 in
theorem qv_e12 : qm_ent 12 = some qx_e12 := rfl
set_option maxRecDepth 20000 in
theorem qv_e13 : qm_ent 13 = some qx_e13 := rfl
set_option maxRecDepth 20000 in
theorem qv_e14 : qm_ent 14 = some qx_e14 := rfl
set_option maxRecDepth 20000 in
theorem qv_e15 : qm_ent 15 = some qx_e15 := rfl
set_option maxRecDepth 20000 in
theorem qv_e16 : qm_ent 16 = some qx_e16 := rfl
set_option maxRecDepth 20000 in
theorem qv_e17 : qm_ent 17 = some qx_e17 := rfl
set_option maxRecDepth 20000 in
theorem qv_e18 : qm_ent 18 = some qx_e18 := rfl
set_option maxRecDepth 20000 in
theorem qv_e19 : qm_ent 19 = some qx_e19 := rfl
set_option maxRecDepth 20000 in
theorem qv_e20 : qm_ent 20 = some qx_e20 := rfl
set_option maxRecDepth 20000 in
theorem qv_e21 : qm_ent 21 = some qx_e21 := rfl
set_option maxRecDepth 20000 in
theorem qv_e22 : qm_ent 22 = some qx_e22 := rfl
set_option maxRecDepth 20000 in
theorem qv_e23 : qm_ent 23 = some qx_e23 := rfl
set_option maxRecDepth 20000 in
theorem qv_e24 : qm_ent 24 = some qx_e24 := rfl
set_option maxRecDepth 20000 in
theorem qv_e25 : qm_ent 25 = some qx_e25 := rfl
set_option maxRecDepth 20000 in
theorem qv_e26 : qm_ent 26 = some qx_e26 := rfl
set_option maxRecDepth 20000 in
theorem qv_e27 : qm_ent 27 = some qx_e27 := rfl
set_option maxRecDepth 20000 in
theorem qv_e28 : qm_ent 28 = some qx_e28 := rfl
set_option maxRecDepth 20000 in
theorem qv_e29 : qm_ent 29 = some qx_e29 := rfl
set_option maxRecDepth 20000 in
theorem qv_e30 : qm_ent 30 = some qx_e30 := rfl
set_option maxRecDepth 20000 in
theorem qv_e31 : qm_ent 31 = some qx_e31 := rfl
set_option maxRecDepth 20000 in
theorem qv_e32 : qm_ent 32 = some qx_e32 := rfl
set_option maxRecDepth 20000 in
theorem qv_e33 : qm_ent 33 = some qx_e33 := rfl
set_option maxRecDepth 20000 in
theorem qv_e34 : qm_ent 34 = some qx_e34 := rfl
set_option maxRecDepth 20000 in
theorem qv_e35 : qm_ent 35 = some qx_e35 := rfl
set_option maxRecDepth 20000 in
theorem qv_e36 : qm_ent 36 = some qx_e36 := rfl
set_option maxRecDepth 20000 in
theorem qv_e37 : qm_ent 37 = some qx_e37 := rfl
set_option maxRecDepth 20000 in
theorem qv_e38 : qm_ent 38 = some qx_e38 := rfl
set_option maxRecDepth 20000 in
theorem qv_e39 : qm_ent 39 = some qx_e39 := rfl
set_option maxRecDepth 20000 in
theorem qv_e40 : qm_ent 40 = some qx_e40 := rfl
set_option maxRecDepth 20000 in
theorem qv_e41 : qm_ent 41 = some qx_e41 := rfl
set_option maxRecDepth 20000 in
theorem qv_e42 : qm_ent 42 = some qx_e42 := rfl
set_option maxRecDepth 20000 in
theorem qv_e43 : qm_ent 43 = some qx_e43 := rfl
set_option maxRecDepth 20000 in
theorem qv_e44 : qm_ent 44 = some qx_e44 := rfl
set_option maxRecDepth 20000 in
theorem qv_e45 : qm_ent 45 = some qx_e45 := rfl
set_option maxRecDepth 20000 in
theorem qv_e46 : qm_ent 46 = some qx_e46 := rfl
set_option maxRecDepth 20000 in
theorem qv_e47 : qm_ent 47 = some qx_e47 := rfl
set_option maxRecDepth 20000 in
theorem qv_e48 : qm_ent 48 = some qx_e48 := rfl
set_option maxRecDepth 20000 in
theorem qv_e49 : qm_ent 49 = some qx_e49 := rfl
set_option maxRecDepth 20000 in
theorem qv_e50 : qm_ent 50 = some qx_e50 := rfl
set_option maxRecDepth 20000 in
theorem qv_e51 : qm_ent 51 = some qx_e51 := rfl
set_option maxRecDepth 20000 in
theorem qv_e52 : qm_ent 52 = some qx_e52 := rfl
set_option maxRecDepth 20000 in
theorem qv_e53 : qm_ent 53 = some qx_e53 := rfl
set_option maxRecDepth 20000 in
theorem qv_e54 : qm_ent 54 = some qx_e54 := rfl
set_option maxRecDepth 20000 in
theorem qv_e55 : qm_ent 55 = some qx_e55 := rfl
set_option maxRecDepth 20000 in
theorem qv_e56 : qm_ent 56 = some qx_e56 := rfl
set_option maxRecDepth 20000 in
theorem qv_e57 : qm_ent 57 = some qx_e57 := rfl
set_option maxRecDepth 20000 in
theorem qv_e58 : qm_ent 58 = some qx_e58 := rfl
set_option maxRecDepth 20000 in
theorem qv_e59 : qm_ent 59 = some qx_e59 := rfl
set_option maxRecDepth 20000 in
theorem qv_e60 : qm_ent 60 = some qx_e60 := rfl
set_option maxRecDepth 20000 in
theorem qv_e61 : qm_ent 61 = some qx_e61 := rfl
set_option maxRecDepth 20000 in
theorem qv_e62 : qm_ent 62 = some qx_e62 := rfl
set_option maxRecDepth 20000 in
theorem qv_e63 : qm_ent 63 = some qx_e63 := rfl
set_option maxRecDepth 20000 in
theorem qv_e64 : qm_ent 64 = some qx_e64 := rfl
set_option maxRecDepth 20000 in
theorem qv_e65 : qm_ent 65 = some qx_e65 := rfl
set_option maxRecDepth 20000 in
theorem qv_e66 : qm_ent 66 = some qx_e66 := rfl
set_option maxRecDepth 20000 in
theorem qv_e67 : qm_ent 67 = some qx_e67 := rfl
set_option maxRecDepth 20000 in
theorem qv_e68 : qm_ent 68 = some qx_e68 := rfl
set_option maxRecDepth 20000 in
theorem qv_e69 : qm_ent 69 = some qx_e69 := rfl
set_option maxRecDepth 20000 in
theorem qv_e70 : qm_ent 70 = some qx_e70 := rfl
set_option maxRecDepth 20000 in
theorem qv_e71 : qm_ent 71 = some qx_e71 := rfl
set_option maxRecDepth 20000 in
theorem qv_e72 : qm_ent 72 = some qx_e72 := rfl
set_option maxRecDepth 20000 in
theorem qv_e73 : qm_ent 73 = some qx_e73 := rfl
set_option maxRecDepth 20000 in
theorem qv_e74 : qm_ent 74 = some qx_e74 := rfl
set_option maxRecDepth 20000 in
theorem qv_e75 : qm_ent 75 = some qx_e75 := rfl
set_option maxRecDepth 20000 in
theorem qv_e76 : qm_ent 76 = some qx_e76 := rfl
set_option maxRecDepth 20000 in
theorem qv_e77 : qm_ent 77 = some qx_e77 := rfl
set_option maxRecDepth 20000 in
theorem qv_e78 : qm_ent 78 = some qx_e78 := rfl
set_option maxRecDepth 20000 in
theorem qv_e79 : qm_ent 79 = some qx_e79 := rfl
set_option maxRecDepth 20000 in
theorem qv_e80 : qm_ent 80 = some qx_e80 := rfl
set_option maxRecDepth 20000 in
theorem qv_e81 : qm_ent 81 = some qx_e81 := rfl
set_option maxRecDepth 20000 in
theorem qv_e82 : qm_ent 82 = some qx_e82 := rfl
set_option maxRecDepth 20000 in
theorem qv_e83 : qm_ent 83 = some qx_e83 := rfl
set_option maxRecDepth 20000 in
theorem qv_e84 : qm_ent 84 = some qx_e84 := rfl
set_option maxRecDepth 20000 in
theorem qv_e85 : qm_ent 85 = some qx_e85 := rfl
set_option maxRecDepth 20000 in
theorem qv_e86 : qm_ent 86 = some qx_e86 := rfl
set_option maxRecDepth 20000 in
theorem qv_e87 : qm_ent 87 = some qx_e87 := rfl
set_option maxRecDepth 20000 in
theorem qv_e88 : qm_ent 88 = some qx_e88 := rfl
set_option maxRecDepth 20000 in
theorem qv_e89 : qm_ent 89 = some qx_e89 := rfl
set_option maxRecDepth 20000 in
theorem qv_e90 : qm_ent 90 = some qx_e90 := rfl
set_option maxRecDepth 20000 in
theorem qv_e91 : qm_ent 91 = some qx_e91 := rfl
set_option maxRecDepth 20000 in
theorem qv_e92 : qm_ent 92 = some qx_e92 := rfl
set_option maxRecDepth 20000 in
theorem qv_e93 : qm_ent 93 = some qx_e93 := rfl
set_option maxRecDepth 20000 in
theorem qv_e94 : qm_ent 94 = some qx_e94 := rfl
set_option maxRecDepth 20000 in
theorem qv_e95 : qm_ent 95 = some qx_e95 := rfl
set_option maxRecDepth 20000 in
theorem qv_e96 : qm_ent 96 = some qx_e96 := rfl
set_option maxRecDepth 20000 in
theorem qv_e97 : qm_ent 97 = some qx_e97 := rfl
set_option maxRecDepth 20000 in
theorem qv_e98 : qm_ent 98 = some qx_e98 := rfl
set_option maxRecDepth 20000 in
theorem qv_e99 : qm_ent 99 = some qx_e99 := rfl
set_option maxRecDepth 20000 in
theorem qv_e100 : qm_ent 100 = some qx_e100 := rfl
set_option maxRecDepth 20000 in
theorem qv_e101 : qm_ent 101 = some qx_e101 := rfl
set_option maxRecDepth 20000 in
theorem qv_e102 : qm_ent 102 = some qx_e102 := rfl
set_option maxRecDepth 20000 in
theorem qv_e103 : qm_ent 103 = some qx_e103 := rfl
set_option maxRecDepth 20000 in
theorem qv_e104 : qm_ent 104 = some qx_e104 := rfl
set_option maxRecDepth 20000 in
theorem qv_e105 : qm_ent 105 = some qx_e105 := rfl
set_option maxRecDepth 20000 in
theorem qv_e106 : qm_ent 106 = some qx_e106 := rfl
set_option maxRecDepth 20000 in
theorem qv_e107 : qm_ent 107 = some qx_e107 := rfl
set_option maxRecDepth 20000 in
theorem qv_e108 : qm_ent 108 = some qx_e108 := rfl
set_option maxRecDepth 20000 in
theorem qv_e109 : qm_ent 109 = some qx_e109 := rfl
set_option maxRecDepth 20000 in
theorem qv_e110 : qm_ent 110 = some qx_e110 := rfl
set_option maxRecDepth 20000 in
theorem qv_e111 : qm_ent 111 = some qx_e111 := rfl
set_option maxRecDepth 20000 in
theorem qv_e112 : qm_ent 112 = some qx_e112 := rfl
set_option maxRecDepth 20000 in
theorem qv_e113 : qm_ent 113 = some qx_e113 := rfl
set_option maxRecDepth 20000 in
theorem qv_e114 : qm_ent 114 = some qx_e114 := rfl
set_option maxRecDepth 20000 in
theorem qv_e115 : qm_ent 115 = some qx_e115 := rfl
set_option maxRecDepth 20000 in
theorem qv_e116 : qm_ent 116 = some qx_e116 := rfl
set_option maxRecDepth 20000 in
theorem qv_e117 : qm_ent 117 = some qx_e117 := rfl
set_option maxRecDepth 20000 in
theorem qv_e118 : qm_ent 118 = some qx_e118 := rfl
set_option maxRecDepth 20000 in
theorem qv_e119 : qm_ent 119 = some qx_e119 := rfl
set_option maxRecDepth 20000 in
theorem qv_e120 : qm_ent 120 = some qx_e120 := rfl
set_option maxRecDepth 20000 in
theorem qv_e121 : qm_ent 121 = some qx_e121 := rfl
set_option maxRecDepth 20000 in
theorem qv_e122 : qm_ent 122 = some qx_e122 := rfl
set_option maxRecDepth 20000 in
theorem qv_e123 : qm_ent 123 = some qx_e123 := rfl
set_option maxRecDepth 20000 in
theorem qv_e124 : qm_ent 124 = some qx_e124 := rfl
set_option maxRecDepth 20000 in
theorem qv_e125 : qm_ent 125 = some qx_e125 := rfl
set_option maxRecDepth 20000 in
theorem qv_e126 : qm_ent 126 = some qx_e126 := rfl
set_option maxRecDepth 20000 in
theorem qv_e127 : qm_ent 127 = some qx_e127 := rfl
set_option maxRecDepth 20000 in
theorem qv_e128 : qm_ent 128 = some qx_e128 := rfl
set_option maxRecDepth 20000 in
theorem qv_e129 : qm_ent 129 = some qx_e129 := rfl
set_option maxRecDepth 20000 in
theorem qv_e130 : qm_ent 130 = some qx_e130 := rfl
set_option maxRecDepth 20000 in
theorem qv_e131 : qm_ent 131 = some qx_e131 := rfl
set_option maxRecDepth 20000 in
theorem qv_e132 : qm_ent 132 = some qx_e132 := rfl
set_option maxRecDepth 20000 in
theorem qv_e133 : qm_ent 133 = some qx_e133 := rfl
set_option maxRecDepth 20000 in
theorem qv_e134 : qm_ent 134 = some qx_e134 := rfl
set_option maxRecDepth 20000 in
theorem qv_e135 : qm_ent 135 = some qx_e135 := rfl
set_option maxRecDepth 20000 in
theorem qv_e136 : qm_ent 136 = some qx_e136 := rfl
set_option maxRecDepth 20000 in
theorem qv_e137 : qm_ent 137 = some qx_e137 := rfl
set_option maxRecDepth 20000 in
theorem qv_e138 : qm_ent 138 = some qx_e138 := rfl
set_option maxRecDepth 20000 in
theorem qv_e139 : qm_ent 139 = some qx_e139 := rfl
set_option maxRecDepth 20000 in
theorem qv_e140 : qm_ent 140 = some qx_e140 := rfl
set_option maxRecDepth 20000 in
theorem qv_e141 : qm_ent 141 = some qx_e141 := rfl
set_option maxRecDepth 20000 in
theorem qv_e142 : qm_ent 142 = some qx_e142 := rfl
set_option maxRecDepth 20000 in
theorem qv_e143 : qm_ent 143 = some qx_e143 := rfl
set_option maxRecDepth 20000 in
theorem qv_e144 : qm_ent 144 = some qx_e144 := rfl
set_option maxRecDepth 20000 in
theorem qv_e145 : qm_ent 145 = some qx_e145 := rfl
set_option maxRecDepth 20000 in
theorem qv_e146 : qm_ent 146 = some qx_e146 := rfl
set_option maxRecDepth 20000 in
theorem qv_e147 : qm_ent 147 = some qx_e147 := rfl
set_option maxRecDepth 20000 in
theorem qv_e148 : qm_ent 148 = some qx_e148 := rfl
set_option maxRecDepth 20000 in
theorem qv_e149 : qm_ent 149 = some qx_e149 := rfl
set_option maxRecDepth 20000 in
theorem qv_e150 : qm_ent 150 = some qx_e150 := rfl
set_option maxRecDepth 20000 in
theorem qv_e151 : qm_ent 151 = some qx_e151 := rfl
set_option maxRecDepth 20000 in
theorem qv_e152 : qm_ent 152 = some qx_e152 := rfl
set_option maxRecDepth 20000 in
theorem qv_e153 : qm_ent 153 = some qx_e153 := rfl
set_option maxRecDepth 20000 in
theorem qv_e154 : qm_ent 154 = some qx_e154 := rfl
set_option maxRecDepth 20000 in
theorem qv_e155 : qm_ent 155 = some qx_e155 := rfl
set_option maxRecDepth 20000 in
theorem qv_e156 : qm_ent 156 = some qx_e156 := rfl
set_option maxRecDepth 20000 in
theorem qv_e157 : qm_ent 157 = some qx_e157 := rfl
set_option maxRecDepth 20000 in
theorem qv_e158 : qm_ent 158 = some qx_e158 := rfl
set_option maxRecDepth 20000 in
theorem qv_e159 : qm_ent 159 = some qx_e159 := rfl
set_option maxRecDepth 20000 in
theorem qv_e160 : qm_ent 160 = some qx_e160 := rfl
set_option maxRecDepth 20000 in
theorem qv_e161 : qm_ent 161 = some qx_e161 := rfl
set_option maxRecDepth 20000 in
theorem qv_e162 : qm_ent 162 = some qx_e162 := rfl
set_option maxRecDepth 20000 in
theorem qv_e163 : qm_ent 163 = some qx_e163 := rfl
set_option maxRecDepth 20000 in
theorem qv_e164 : qm_ent 164 = some qx_e164 := rfl
set_option maxRecDepth 20000 in
theorem qv_e165 : qm_ent 165 = some qx_e165 := rfl
set_option maxRecDepth 20000 in
theorem qv_e166 : qm_ent 166 = some qx_e166 := rfl
set_option maxRecDepth 20000 in
theorem qv_e167 : qm_ent 167 = some qx_e167 := rfl
set_option maxRecDepth 20000 in
theorem qv_e168 : qm_ent 168 = some qx_e168 := rfl
set_option maxRecDepth 20000 in
theorem qv_e169 : qm_ent 169 = some qx_e169 := rfl
set_option maxRecDepth 20000 in
theorem qv_e170 : qm_ent 170 = some qx_e170 := rfl
set_option maxRecDepth 20000 in
theorem qv_e171 : qm_ent 171 = some qx_e171 := rfl
set_option maxRecDepth 20000 in
theorem qv_e172 : qm_ent 172 = some qx_e172 := rfl
set_option maxRecDepth 20000 in
theorem qv_e173 : qm_ent 173 = some qx_e173 := rfl
set_option maxRecDepth 20000 in
theorem qv_e174 : qm_ent 174 = some qx_e174 := rfl
set_option maxRecDepth 20000 in
theorem qv_e175 : qm_ent 175 = some qx_e175 := rfl
set_option maxRecDepth 20000 in
theorem qv_e176 : qm_ent 176 = some qx_e176 := rfl
set_option maxRecDepth 20000 in
theorem qv_e177 : qm_ent 177 = some qx_e177 := rfl
set_option maxRecDepth 20000 in
theorem qv_e178 : qm_ent 178 = some qx_e178 := rfl
set_option maxRecDepth 20000 in
theorem qv_e179 : qm_ent 179 = some qx_e179 := rfl
set_option maxRecDepth 20000 in
theorem qv_e180 : qm_ent 180 = some qx_e180 := rfl
set_option maxRecDepth 20000 in
theorem qv_e181 : qm_ent 181 = some qx_e181 := rfl
set_option maxRecDepth 20000 in
theorem qv_e182 : qm_ent 182 = some qx_e182 := rfl
set_option maxRecDepth 20000 in
theorem qv_e183 : qm_ent 183 = some qx_e183 := rfl
set_option maxRecDepth 20000 in
theorem qv_e184 : qm_ent 184 = some qx_e184 := rfl
set_option maxRecDepth 20000 in
theorem qv_e185 : qm_ent 185 = some qx_e185 := rfl
set_option maxRecDepth 20000 in
theorem qv_e186 : qm_ent 186 = some qx_e186 := rfl
set_option maxRecDepth 20000 in
theorem qv_e187 : qm_ent 187 = some qx_e187 := rfl
set_option maxRecDepth 20000 in
theorem qv_e188 : qm_ent 188 = some qx_e188 := rfl
set_option maxRecDepth 20000 in
theorem qv_e189 : qm_ent 189 = some qx_e189 := rfl
set_option maxRecDepth 20000 in
theorem qv_e190 : qm_ent 190 = some qx_e190 := rfl
set_option maxRecDepth 20000 in
theorem qv_e191 : qm_ent 191 = some qx_e191 := rfl
set_option maxRecDepth 20000 in
theorem qv_e192 : qm_ent 192 = some qx_e192 := rfl
set_option maxRecDepth 20000 in
theorem qv_e193 : qm_ent 193 = some qx_e193 := rfl
set_option maxRecDepth 20000 in
theorem qv_e194 : qm_ent 194 = some qx_e194 := rfl
set_option maxRecDepth 20000 in
theorem qv_e195 : qm_ent 195 = some qx_e195 := rfl
set_option maxRecDepth 20000 in
theorem qv_e196 : qm_ent 196 = some qx_e196 := rfl
set_option maxRecDepth 20000 in
theorem qv_e197 : qm_ent 197 = some qx_e197 := rfl
set_option maxRecDepth 20000 in
theorem qv_e198 : qm_ent 198 = some qx_e198 := rfl
set_option maxRecDepth 20000 in
theorem qv_e199 : qm_ent 199 = some qx_e199 := rfl
set_option maxRecDepth 20000 in
theorem qv_e200 : qm_ent 200 = some qx_e200 := rfl
set_option maxRecDepth 20000 in
theorem qv_e201 : qm_ent 201 = some qx_e201 := rfl
set_option maxRecDepth 20000 in
theorem qv_e202 : qm_ent 202 = some qx_e202 := rfl
set_option maxRecDepth 20000 in
theorem qv_e203 : qm_ent 203 = some qx_e203 := rfl
set_option maxRecDepth 20000 in
theorem qv_e204 : qm_ent 204 = some qx_e204 := rfl
set_option maxRecDepth 20000 in
theorem qv_e205 : qm_ent 205 = some qx_e205 := rfl
set_option maxRecDepth 20000 in
theorem qv_e206 : qm_ent 206 = some qx_e206 := rfl
set_option maxRecDepth 20000 in
theorem qv_e207 : qm_ent 207 = some qx_e207 := rfl
set_option maxRecDepth 20000 in
theorem qv_e208 : qm_ent 208 = some qx_e208 := rfl
set_option maxRecDepth 20000 in
theorem qv_e209 : qm_ent 209 = some qx_e209 := rfl
set_option maxRecDepth 20000 in
theorem qv_e210 : qm_ent 210 = some qx_e210 := rfl
set_option maxRecDepth 20000 in
theorem qv_e211 : qm_ent 211 = some qx_e211 := rfl
set_option maxRecDepth 20000 in
theorem qv_e212 : qm_ent 212 = some qx_e212 := rfl
set_option maxRecDepth 20000 in
theorem qv_e213 : qm_ent 213 = some qx_e213 := rfl
set_option maxRecDepth 20000 in
theorem qv_e214 : qm_ent 214 = some qx_e214 := rfl
set_option maxRecDepth 20000 in
theorem qv_e215 : qm_ent 215 = some qx_e215 := rfl
set_option maxRecDepth 20000 in
theorem qv_e216 : qm_ent 216 = some qx_e216 := rfl
set_option maxRecDepth 20000 in
theorem qv_e217 : qm_ent 217 = some qx_e217 := rfl
set_option maxRecDepth 20000 in
theorem qv_e218 : qm_ent 218 = some qx_e218 := rfl
set_option maxRecDepth 20000 in
theorem qv_e219 : qm_ent 219 = some qx_e219 := rfl
set_option maxRecDepth 20000 in
theorem qv_e220 : qm_ent 220 = some qx_e220 := rfl
set_option maxRecDepth 20000 in
theorem qv_e221 : qm_ent 221 = some qx_e221 := rfl
set_option maxRecDepth 20000 in
theorem qv_e222 : qm_ent 222 = some qx_e222 := rfl
set_option maxRecDepth 20000 in
theorem qv_e223 : qm_ent 223 = some qx_e223 := rfl
set_option maxRecDepth 20000 in
theorem qv_e224 : qm_ent 224 = some qx_e224 := rfl
set_option maxRecDepth 20000 in
theorem qv_e225 : qm_ent 225 = some qx_e225 := rfl
set_option maxRecDepth 20000 in
theorem qv_e226 : qm_ent 226 = some qx_e226 := rfl
set_option maxRecDepth 20000 in
theorem qv_e227 : qm_ent 227 = some qx_e227 := rfl
set_option maxRecDepth 20000 in
theorem qv_e228 : qm_ent 228 = some qx_e228 := rfl
set_option maxRecDepth 20000 in
theorem qv_e229 : qm_ent 229 = some qx_e229 := rfl
set_option maxRecDepth 20000 in
theorem qv_e230 : qm_ent 230 = some qx_e230 := rfl
set_option maxRecDepth 20000 in
theorem qv_e231 : qm_ent 231 = some qx_e231 := rfl
set_option maxRecDepth 20000 in
theorem qv_e232 : qm_ent 232 = some qx_e232 := rfl
set_option maxRecDepth 20000 in
theorem qv_e233 : qm_ent 233 = some qx_e233 := rfl
set_option maxRecDepth 20000 in
theorem qv_e234 : qm_ent 234 = some qx_e234 := rfl
set_option maxRecDepth 20000 in
theorem qv_e235 : qm_ent 235 = some qx_e235 := rfl
set_option maxRecDepth 20000 in
theorem qv_e236 : qm_ent 236 = some qx_e236 := rfl
set_option maxRecDepth 20000 in
theorem qv_e237 : qm_ent 237 = some qx_e237 := rfl
set_option maxRecDepth 20000 in
theorem qv_e238 : qm_ent 238 = some qx_e238 := rfl
set_option maxRecDepth 20000 in
theorem qv_e239 : qm_ent 239 = some qx_e239 := rfl
set_option maxRecDepth 20000 in
theorem qv_e240 : qm_ent 240 = some qx_e240 := rfl
set_option maxRecDepth 20000 in
theorem qv_e241 : qm_ent 241 = some qx_e241 := rfl
set_option maxRecDepth 20000 in
theorem qv_e242 : qm_ent 242 = some qx_e242 := rfl
set_option maxRecDepth 20000 in
theorem qv_e243 : qm_ent 243 = some qx_e243 := rfl
set_option maxRecDepth 20000 in
theorem qv_e244 : qm_ent 244 = some qx_e244 := rfl
set_option maxRecDepth 20000 in
theorem qv_e245 : qm_ent 245 = some qx_e245 := rfl
set_option maxRecDepth 20000 in
theorem qv_e246 : qm_ent 246 = some qx_e246 := rfl
set_option maxRecDepth 20000 in
theorem qv_e247 : qm_ent 247 = some qx_e247 := rfl
set_option maxRecDepth 20000 in
theorem qv_e248 : qm_ent 248 = some qx_e248 := rfl
set_option maxRecDepth 20000 in
theorem qv_e249 : qm_ent 249 = some qx_e249 := rfl
set_option maxRecDepth 20000 in
theorem qv_e250 : qm_ent 250 = some qx_e250 := rfl
set_option maxRecDepth 20000 in
theorem qv_e251 : qm_ent 251 = some qx_e251 := rfl
set_option maxRecDepth 20000 in
theorem qv_e252 : qm_ent 252 = some qx_e252 := rfl
set_option maxRecDepth 20000 in
theorem qv_e253 : qm_ent 253 = some qx_e253 := rfl
set_option maxRecDepth 20000 in
theorem qv_e254 : qm_ent 254 = some qx_e254 := rfl
set_option maxRecDepth 20000 in
theorem qv_e255 : qm_ent 255 = some qx_e255 := rfl
set_option maxRecDepth 20000 in
theorem qv_e256 : qm_ent 256 = some qx_e256 := rfl
set_option maxRecDepth 20000 in
theorem qv_e257 : qm_ent 257 = some qx_e257 := rfl
set_option maxRecDepth 20000 in
theorem qv_e258 : qm_ent 258 = some qx_e258 := rfl
set_option maxRecDepth 20000 in
theorem qv_e259 : qm_ent 259 = some qx_e259 := rfl
set_option maxRecDepth 20000 in
theorem qv_e260 : qm_ent 260 = some qx_e260 := rfl
set_option maxRecDepth 20000 in
theorem qv_e261 : qm_ent 261 = some qx_e261 := rfl
set_option maxRecDepth 20000 in
theorem qv_e262 : qm_ent 262 = some qx_e262 := rfl
set_option maxRecDepth 20000 in
theorem qv_e263 : qm_ent 263 = some qx_e263 := rfl
set_option maxRecDepth 20000 in
theorem qv_e264 : qm_ent 264 = some qx_e264 := rfl
set_option maxRecDepth 20000 in
theorem qv_e265 : qm_ent 265 = some qx_e265 := rfl
set_option maxRecDepth 20000 in
theorem qv_e266 : qm_ent 266 = some qx_e266 := rfl
set_option maxRecDepth 20000 in
theorem qv_e267 : qm_ent 267 = some qx_e267 := rfl
set_option maxRecDepth 20000 in
theorem qv_e268 : qm_ent 268 = some qx_e268 := rfl
set_option maxRecDepth 20000 in
theorem qv_e269 : qm_ent 269 = some qx_e269 := rfl
set_option maxRecDepth 20000 in
theorem qv_e270 : qm_ent 270 = some qx_e270 := rfl
set_option maxRecDepth 20000 in
theorem qv_e271 : qm_ent 271 = some qx_e271 := rfl
set_option maxRecDepth 100000 in
theorem qv_i1 : Cond.instanceMethod qx_e1.2.1 ∈ lw_tbl := qv_in1 (List.mem_of_getElem? (i := 28) rfl)
set_option maxRecDepth 100000 in
theorem qv_i2 : Cond.instanceMethod qx_e2.2.1 ∈ lw_tbl := qv_in1 (List.mem_of_getElem? (i := 36) rfl)
set_option maxRecDepth 100000 in
theorem qv_i3 : Cond.instanceMethod qx_e3.2.1 ∈ lw_tbl := qv_in1 (List.mem_of_getElem? (i := 80) rfl)
set_option maxRecDepth 100000 in
theorem qv_t4 : Cond.static qx_e4.2.1 ∈ lw_tbl := qv_in1 (List.mem_of_getElem? (i := 84) rfl)
set_option maxRecDepth 100000 in
theorem qv_i5 : Cond.instanceMethod qx_e5.2.1 ∈ lw_tbl := qv_in1 (List.mem_of_getElem? (i := 98) rfl)
set_option maxRecDepth 100000 in
theorem qv_i6 : Cond.instanceMethod qx_e6.2.1 ∈ lw_tbl := qv_in1 (List.mem_of_getElem? (i := 132) rfl)
set_option maxRecDepth 100000 in
theorem qv_i7 : Cond.instanceMethod qx_e7.2.1 ∈ lw_tbl := qv_in1 (List.mem_of_getElem? (i := 172) rfl)
set_option maxRecDepth 100000 in
theorem qv_i8 : Cond.instanceMethod qx_e8.2.1 ∈ lw_tbl := qv_in1 (List.mem_of_getElem? (i := 187) rfl)
set_option maxRecDepth 100000 in
theorem qv_i9 : Cond.instanceMethod qx_e9.2.1 ∈ lw_tbl := qv_in1 (List.mem_of_getElem? (i := 210) rfl)
set_option maxRecDepth 100000 in
theorem qv_i10 : Cond.instanceMethod qx_e10.2.1 ∈ lw_tbl := qv_in1 (List.mem_of_getElem? (i := 214) rfl)
set_option maxRecDepth 100000 in
theorem qv_s10 : Cond.selects qx_e10.2.1.cls qx_e10.2.1 qx_e10.2.1 ∈ lw_tbl := qv_in1 (List.mem_of_getElem? (i := 215) rfl)
set_option maxRecDepth 100000 in
theorem qv_i11 : Cond.instanceMethod qx_e11.2.1 ∈ lw_tbl := qv_in1 (List.mem_of_getElem? (i := 218) rfl)
set_option maxRecDepth 100000 in
theorem qv_s11 : Cond.selects qx_e11.2.1.cls qx_e11.2.1 qx_e11.2.1 ∈ lw_tbl := qv_in1 (List.mem_of_getElem? (i := 219) rfl)
set_option maxRecDepth 100000 in
theorem qv_t12 : Cond.static qx_e12.2.1 ∈ lw_tbl := qv_in1 (List.mem_of_getElem? (i := 224) rfl)
set_option maxRecDepth 100000 in
theorem qv_i13 : Cond.instanceMethod qx_e13.2.1 ∈ lw_tbl := qv_in1 (List.mem_of_getElem? (i := 227) rfl)
set_option maxRecDepth 100000 in
theorem qv_s13 : Cond.selects qx_e13.2.1.cls qx_e13.2.1 qx_e13.2.1 ∈ lw_tbl := qv_in1 (List.mem_of_getElem? (i := 228) rfl)
set_option maxRecDepth 100000 in
theorem qv_i14 : Cond.instanceMethod qx_e14.2.1 ∈ lw_tbl := qv_in1 (List.mem_of_getElem? (i := 231) rfl)
set_option maxRecDepth 100000 in
theorem qv_s14 : Cond.selects qx_e14.2.1.cls qx_e14.2.1 qx_e14.2.1 ∈ lw_tbl := qv_in1 (List.mem_of_getElem? (i := 232) rfl)
set_option maxRecDepth 100000 in
theorem qv_t15 : Cond.static qx_e15.2.1 ∈ lw_tbl := qv_in1 (List.mem_of_getElem? (i := 235) rfl)
set_option maxRecDepth 100000 in
theorem qv_t16 : Cond.static qx_e16.2.1 ∈ lw_tbl := qv_in1 (List.mem_of_getElem? (i := 238) rfl)
set_option maxRecDepth 100000 in
theorem qv_t17 : Cond.static qx_e17.2.1 ∈ lw_tbl := qv_in2 (List.mem_of_getElem? (i := 3) rfl)
set_option maxRecDepth 100000 in
theorem qv_i18 : Cond.instanceMethod qx_e18.2.1 ∈ lw_tbl := qv_in2 (List.mem_of_getElem? (i := 26) rfl)
theorem qv_s18 : Cond.selects qx_e18.2.1.cls qx_e18.2.1 qx_e18.2.1 ∈ lw_tbl := List.mem_of_getElem? (i := 0) (by decide +kernel)
set_option maxRecDepth 100000 in
theorem qv_i19 : Cond.instanceMethod qx_e19.2.1 ∈ lw_tbl := qv_in2 (List.mem_of_getElem? (i := 30) rfl)
theorem qv_s19 : Cond.selects qx_e19.2.1.cls qx_e19.2.1 qx_e19.2.1 ∈ lw_tbl := List.mem_of_getElem? (i := 1) (by decide +kernel)
set_option maxRecDepth 100000 in
theorem qv_i20 : Cond.instanceMethod qx_e20.2.1 ∈ lw_tbl := qv_in2 (List.mem_of_getElem? (i := 34) rfl)
theorem qv_s20 : Cond.selects qx_e20.2.1.cls qx_e20.2.1 qx_e20.2.1 ∈ lw_tbl := List.mem_of_getElem? (i := 2) (by decide +kernel)
set_option maxRecDepth 100000 in
theorem qv_i21 : Cond.instanceMethod qx_e21.2.1 ∈ lw_tbl := qv_in2 (List.mem_of_getElem? (i := 38) rfl)
theorem qv_s21 : Cond.selects qx_e21.2.1.cls qx_e21.2.1 qx_e21.2.1 ∈ lw_tbl := List.mem_of_getElem? (i := 3) (by decide +kernel)
set_option maxRecDepth 100000 in
theorem qv_i22 : Cond.instanceMethod qx_e22.2.1 ∈ lw_tbl := qv_in2 (List.mem_of_getElem? (i := 42) rfl)
theorem qv_s22 : Cond.selects qx_e22.2.1.cls qx_e22.2.1 qx_e22.2.1 ∈ lw_tbl := List.mem_of_getElem? (i := 4) (by decide +kernel)
set_option maxRecDepth 100000 in
theorem qv_t23 : Cond.static qx_e23.2.1 ∈ lw_tbl := qv_in2 (List.mem_of_getElem? (i := 45) rfl)
set_option maxRecDepth 100000 in
theorem qv_i24 : Cond.instanceMethod qx_e24.2.1 ∈ lw_tbl := qv_in2 (List.mem_of_getElem? (i := 49) rfl)
theorem qv_s24 : Cond.selects qx_e24.2.1.cls qx_e24.2.1 qx_e24.2.1 ∈ lw_tbl := List.mem_of_getElem? (i := 5) (by decide +kernel)
set_option maxRecDepth 100000 in
theorem qv_i25 : Cond.instanceMethod qx_e25.2.1 ∈ lw_tbl := qv_in2 (List.mem_of_getElem? (i := 53) rfl)
theorem qv_s25 : Cond.selects qx_e25.2.1.cls qx_e25.2.1 qx_e25.2.1 ∈ lw_tbl := List.mem_of_getElem? (i := 6) (by decide +kernel)
set_option maxRecDepth 100000 in
theorem qv_i26 : Cond.instanceMethod qx_e26.2.1 ∈ lw_tbl := qv_in2 (List.mem_of_getElem? (i := 57) rfl)
set_option maxRecDepth 100000 in
theorem qv_s26 : Cond.selects qx_e26.2.1.cls qx_e26.2.1 qx_e26.2.1 ∈ lw_tbl := qv_in2 (List.mem_of_getElem? (i := 58) rfl)
set_option maxRecDepth 100000 in
theorem qv_i27 : Cond.instanceMethod qx_e27.2.1 ∈ lw_tbl := qv_in2 (List.mem_of_getElem? (i := 61) rfl)
set_option maxRecDepth 100000 in
theorem qv_s27 : Cond.selects qx_e27.2.1.cls qx_e27.2.1 qx_e27.2.1 ∈ lw_tbl := qv_in2 (List.mem_of_getElem? (i := 62) rfl)
set_option maxRecDepth 100000 in
theorem qv_t28 : Cond.static qx_e28.2.1 ∈ lw_tbl := qv_in2 (List.mem_of_getElem? (i := 66) rfl)
set_option maxRecDepth 100000 in
theorem qv_t29 : Cond.static qx_e29.2.1 ∈ lw_tbl := qv_in2 (List.mem_of_getElem? (i := 69) rfl)
set_option maxRecDepth 100000 in
theorem qv_t30 : Cond.static qx_e30.2.1 ∈ lw_tbl := qv_in2 (List.mem_of_getElem? (i := 72) rfl)
set_option maxRecDepth 100000 in
theorem qv_t31 : Cond.static qx_e31.2.1 ∈ lw_tbl := qv_in2 (List.mem_of_getElem? (i := 76) rfl)
set_option maxRecDepth 100000 in
theorem qv_i32 : Cond.instanceMethod qx_e32.2.1 ∈ lw_tbl := qv_in2 (List.mem_of_getElem? (i := 115) rfl)
theorem qv_s32 : Cond.selects qx_e32.2.1.cls qx_e32.2.1 qx_e32.2.1 ∈ lw_tbl := List.mem_of_getElem? (i := 7) (by decide +kernel)
set_option maxRecDepth 100000 in
theorem qv_t33 : Cond.static qx_e33.2.1 ∈ lw_tbl := qv_in2 (List.mem_of_getElem? (i := 118) rfl)
set_option maxRecDepth 100000 in
theorem qv_i34 : Cond.instanceMethod qx_e34.2.1 ∈ lw_tbl := qv_in2 (List.mem_of_getElem? (i := 151) rfl)
set_option maxRecDepth 100000 in
theorem qv_i35 : Cond.instanceMethod qx_e35.2.1 ∈ lw_tbl := qv_in2 (List.mem_of_getElem? (i := 203) rfl)
set_option maxRecDepth 100000 in
theorem qv_i36 : Cond.instanceMethod qx_e36.2.1 ∈ lw_tbl := qv_in2 (List.mem_of_getElem? (i := 234) rfl)
set_option maxRecDepth 100000 in
theorem qv_i37 : Cond.instanceMethod qx_e37.2.1 ∈ lw_tbl := qv_in3 (List.mem_of_getElem? (i := 27) rfl)
set_option maxRecDepth 100000 in
theorem qv_i38 : Cond.instanceMethod qx_e38.2.1 ∈ lw_tbl := qv_in3 (List.mem_of_getElem? (i := 110) rfl)
set_option maxRecDepth 100000 in
theorem qv_s38 : Cond.selects qx_e38.2.1.cls qx_e38.2.1 qx_e38.2.1 ∈ lw_tbl := qv_in3 (List.mem_of_getElem? (i := 111) rfl)
set_option maxRecDepth 100000 in
theorem qv_i39 : Cond.instanceMethod qx_e39.2.1 ∈ lw_tbl := qv_in3 (List.mem_of_getElem? (i := 114) rfl)
set_option maxRecDepth 100000 in
theorem qv_s39 : Cond.selects qx_e39.2.1.cls qx_e39.2.1 qx_e39.2.1 ∈ lw_tbl := qv_in3 (List.mem_of_getElem? (i := 115) rfl)
set_option maxRecDepth 100000 in
theorem qv_i40 : Cond.instanceMethod qx_e40.2.1 ∈ lw_tbl := qv_in3 (List.mem_of_getElem? (i := 118) rfl)
set_option maxRecDepth 100000 in
theorem qv_s40 : Cond.selects qx_e40.2.1.cls qx_e40.2.1 qx_e40.2.1 ∈ lw_tbl := qv_in3 (List.mem_of_getElem? (i := 119) rfl)
set_option maxRecDepth 100000 in
theorem qv_t41 : Cond.static qx_e41.2.1 ∈ lw_tbl := qv_in3 (List.mem_of_getElem? (i := 122) rfl)
set_option maxRecDepth 100000 in
theorem qv_i42 : Cond.instanceMethod qx_e42.2.1 ∈ lw_tbl := qv_in3 (List.mem_of_getElem? (i := 125) rfl)
set_option maxRecDepth 100000 in
theorem qv_s42 : Cond.selects qx_e42.2.1.cls qx_e42.2.1 qx_e42.2.1 ∈ lw_tbl := qv_in3 (List.mem_of_getElem? (i := 126) rfl)
set_option maxRecDepth 100000 in
theorem qv_i43 : Cond.instanceMethod qx_e43.2.1 ∈ lw_tbl := qv_in3 (List.mem_of_getElem? (i := 129) rfl)
set_option maxRecDepth 100000 in
theorem qv_s43 : Cond.selects qx_e43.2.1.cls qx_e43.2.1 qx_e43.2.1 ∈ lw_tbl := qv_in3 (List.mem_of_getElem? (i := 130) rfl)
set_option maxRecDepth 100000 in
theorem qv_i44 : Cond.instanceMethod qx_e44.2.1 ∈ lw_tbl := qv_in3 (List.mem_of_getElem? (i := 133) rfl)
set_option maxRecDepth 100000 in
theorem qv_s44 : Cond.selects qx_e44.2.1.cls qx_e44.2.1 qx_e44.2.1 ∈ lw_tbl := qv_in3 (List.mem_of_getElem? (i := 134) rfl)
set_option maxRecDepth 100000 in
theorem qv_i45 : Cond.instanceMethod qx_e45.2.1 ∈ lw_tbl := qv_in3 (List.mem_of_getElem? (i := 137) rfl)
set_option maxRecDepth 100000 in
theorem qv_s45 : Cond.selects qx_e45.2.1.cls qx_e45.2.1 qx_e45.2.1 ∈ lw_tbl := qv_in3 (List.mem_of_getElem? (i := 138) rfl)
set_option maxRecDepth 100000 in
theorem qv_i46 : Cond.instanceMethod qx_e46.2.1 ∈ lw_tbl := qv_in3 (List.mem_of_getElem? (i := 141) rfl)
set_option maxRecDepth 100000 in
theorem qv_s46 : Cond.selects qx_e46.2.1.cls qx_e46.2.1 qx_e46.2.1 ∈ lw_tbl := qv_in3 (List.mem_of_getElem? (i := 142) rfl)
set_option maxRecDepth 100000 in
theorem qv_i47 : Cond.instanceMethod qx_e47.2.1 ∈ lw_tbl := qv_in3 (List.mem_of_getElem? (i := 145) rfl)
set_option maxRecDepth 100000 in
theorem qv_s47 : Cond.selects qx_e47.2.1.cls qx_e47.2.1 qx_e47.2.1 ∈ lw_tbl := qv_in3 (List.mem_of_getElem? (i := 146) rfl)
set_option maxRecDepth 100000 in
theorem qv_i48 : Cond.instanceMethod qx_e48.2.1 ∈ lw_tbl := qv_in3 (List.mem_of_getElem? (i := 151) rfl)
set_option maxRecDepth 100000 in
theorem qv_s48 : Cond.selects qx_e48.2.1.cls qx_e48.2.1 qx_e48.2.1 ∈ lw_tbl := qv_in3 (List.mem_of_getElem? (i := 152) rfl)
set_option maxRecDepth 100000 in
theorem qv_i49 : Cond.instanceMethod qx_e49.2.1 ∈ lw_tbl := qv_in3 (List.mem_of_getElem? (i := 155) rfl)
set_option maxRecDepth 100000 in
theorem qv_s49 : Cond.selects qx_e49.2.1.cls qx_e49.2.1 qx_e49.2.1 ∈ lw_tbl := qv_in3 (List.mem_of_getElem? (i := 156) rfl)
set_option maxRecDepth 100000 in
theorem qv_t50 : Cond.static qx_e50.2.1 ∈ lw_tbl := qv_in3 (List.mem_of_getElem? (i := 160) rfl)
set_option maxRecDepth 100000 in
theorem qv_i51 : Cond.instanceMethod qx_e51.2.1 ∈ lw_tbl := qv_in3 (List.mem_of_getElem? (i := 163) rfl)
set_option maxRecDepth 100000 in
theorem qv_s51 : Cond.selects qx_e51.2.1.cls qx_e51.2.1 qx_e51.2.1 ∈ lw_tbl := qv_in3 (List.mem_of_getElem? (i := 164) rfl)
set_option maxRecDepth 100000 in
theorem qv_i52 : Cond.instanceMethod qx_e52.2.1 ∈ lw_tbl := qv_in3 (List.mem_of_getElem? (i := 168) rfl)
set_option maxRecDepth 100000 in
theorem qv_s52 : Cond.selects qx_e52.2.1.cls qx_e52.2.1 qx_e52.2.1 ∈ lw_tbl := qv_in3 (List.mem_of_getElem? (i := 169) rfl)
set_option maxRecDepth 100000 in
theorem qv_i53 : Cond.instanceMethod qx_e53.2.1 ∈ lw_tbl := qv_in3 (List.mem_of_getElem? (i := 173) rfl)
theorem qv_s53 : Cond.selects qx_e53.2.1.cls qx_e53.2.1 qx_e53.2.1 ∈ lw_tbl := List.mem_of_getElem? (i := 8) (by decide +kernel)
set_option maxRecDepth 100000 in
theorem qv_i54 : Cond.instanceMethod qx_e54.2.1 ∈ lw_tbl := qv_in3 (List.mem_of_getElem? (i := 178) rfl)
theorem qv_s54 : Cond.selects qx_e54.2.1.cls qx_e54.2.1 qx_e54.2.1 ∈ lw_tbl := List.mem_of_getElem? (i := 9) (by decide +kernel)
set_option maxRecDepth 100000 in
theorem qv_i55 : Cond.instanceMethod qx_e55.2.1 ∈ lw_tbl := qv_in3 (List.mem_of_getElem? (i := 185) rfl)
theorem qv_s55 : Cond.selects qx_e55.2.1.cls qx_e55.2.1 qx_e55.2.1 ∈ lw_tbl := List.mem_of_getElem? (i := 10) (by decide +kernel)
set_option maxRecDepth 100000 in
theorem qv_i56 : Cond.instanceMethod qx_e56.2.1 ∈ lw_tbl := qv_in3 (List.mem_of_getElem? (i := 189) rfl)
set_option maxRecDepth 100000 in
theorem qv_s56 : Cond.selects qx_e56.2.1.cls qx_e56.2.1 qx_e56.2.1 ∈ lw_tbl := qv_in3 (List.mem_of_getElem? (i := 190) rfl)
set_option maxRecDepth 100000 in
theorem qv_i57 : Cond.instanceMethod qx_e57.2.1 ∈ lw_tbl := qv_in3 (List.mem_of_getElem? (i := 193) rfl)
set_option maxRecDepth 100000 in
theorem qv_s57 : Cond.selects qx_e57.2.1.cls qx_e57.2.1 qx_e57.2.1 ∈ lw_tbl := qv_in3 (List.mem_of_getElem? (i := 194) rfl)
set_option maxRecDepth 100000 in
theorem qv_i58 : Cond.instanceMethod qx_e58.2.1 ∈ lw_tbl := qv_in3 (List.mem_of_getElem? (i := 197) rfl)
set_option maxRecDepth 100000 in
theorem qv_s58 : Cond.selects qx_e58.2.1.cls qx_e58.2.1 qx_e58.2.1 ∈ lw_tbl := qv_in3 (List.mem_of_getElem? (i := 198) rfl)
set_option maxRecDepth 100000 in
theorem qv_i59 : Cond.instanceMethod qx_e59.2.1 ∈ lw_tbl := qv_in3 (List.mem_of_getElem? (i := 203) rfl)
set_option maxRecDepth 100000 in
theorem qv_s59 : Cond.selects qx_e59.2.1.cls qx_e59.2.1 qx_e59.2.1 ∈ lw_tbl := qv_in3 (List.mem_of_getElem? (i := 204) rfl)
set_option maxRecDepth 100000 in
theorem qv_i60 : Cond.instanceMethod qx_e60.2.1 ∈ lw_tbl := qv_in3 (List.mem_of_getElem? (i := 207) rfl)
set_option maxRecDepth 100000 in
theorem qv_s60 : Cond.selects qx_e60.2.1.cls qx_e60.2.1 qx_e60.2.1 ∈ lw_tbl := qv_in3 (List.mem_of_getElem? (i := 208) rfl)
set_option maxRecDepth 100000 in
theorem qv_i61 : Cond.instanceMethod qx_e61.2.1 ∈ lw_tbl := qv_in3 (List.mem_of_getElem? (i := 211) rfl)
set_option maxRecDepth 100000 in
theorem qv_s61 : Cond.selects qx_e61.2.1.cls qx_e61.2.1 qx_e61.2.1 ∈ lw_tbl := qv_in3 (List.mem_of_getElem? (i := 212) rfl)
set_option maxRecDepth 100000 in
theorem qv_t62 : Cond.static qx_e62.2.1 ∈ lw_tbl := qv_in3 (List.mem_of_getElem? (i := 215) rfl)
set_option maxRecDepth 100000 in
theorem qv_i63 : Cond.instanceMethod qx_e63.2.1 ∈ lw_tbl := qv_in3 (List.mem_of_getElem? (i := 218) rfl)
set_option maxRecDepth 100000 in
theorem qv_s63 : Cond.selects qx_e63.2.1.cls qx_e63.2.1 qx_e63.2.1 ∈ lw_tbl := qv_in3 (List.mem_of_getElem? (i := 219) rfl)
set_option maxRecDepth 100000 in
theorem qv_i64 : Cond.instanceMethod qx_e64.2.1 ∈ lw_tbl := qv_in3 (List.mem_of_getElem? (i := 222) rfl)
set_option maxRecDepth 100000 in
theorem qv_s64 : Cond.selects qx_e64.2.1.cls qx_e64.2.1 qx_e64.2.1 ∈ lw_tbl := qv_in3 (List.mem_of_getElem? (i := 223) rfl)
set_option maxRecDepth 100000 in
theorem qv_i65 : Cond.instanceMethod qx_e65.2.1 ∈ lw_tbl := qv_in3 (List.mem_of_getElem? (i := 226) rfl)
set_option maxRecDepth 100000 in
theorem qv_s65 : Cond.selects qx_e65.2.1.cls qx_e65.2.1 qx_e65.2.1 ∈ lw_tbl := qv_in3 (List.mem_of_getElem? (i := 227) rfl)
set_option maxRecDepth 100000 in
theorem qv_i66 : Cond.instanceMethod qx_e66.2.1 ∈ lw_tbl := qv_in3 (List.mem_of_getElem? (i := 230) rfl)
set_option maxRecDepth 100000 in
theorem qv_s66 : Cond.selects qx_e66.2.1.cls qx_e66.2.1 qx_e66.2.1 ∈ lw_tbl := qv_in3 (List.mem_of_getElem? (i := 231) rfl)
set_option maxRecDepth 100000 in
theorem qv_i67 : Cond.instanceMethod qx_e67.2.1 ∈ lw_tbl := qv_in3 (List.mem_of_getElem? (i := 234) rfl)
set_option maxRecDepth 100000 in
theorem qv_s67 : Cond.selects qx_e67.2.1.cls qx_e67.2.1 qx_e67.2.1 ∈ lw_tbl := qv_in3 (List.mem_of_getElem? (i := 235) rfl)
set_option maxRecDepth 100000 in
theorem qv_i68 : Cond.instanceMethod qx_e68.2.1 ∈ lw_tbl := qv_in3 (List.mem_of_getElem? (i := 238) rfl)
set_option maxRecDepth 100000 in
theorem qv_s68 : Cond.selects qx_e68.2.1.cls qx_e68.2.1 qx_e68.2.1 ∈ lw_tbl := qv_in3 (List.mem_of_getElem? (i := 239) rfl)
set_option maxRecDepth 100000 in
theorem qv_i69 : Cond.instanceMethod qx_e69.2.1 ∈ lw_tbl := qv_in4 (List.mem_of_getElem? (i := 3) rfl)
set_option maxRecDepth 100000 in
theorem qv_s69 : Cond.selects qx_e69.2.1.cls qx_e69.2.1 qx_e69.2.1 ∈ lw_tbl := qv_in4 (List.mem_of_getElem? (i := 4) rfl)
set_option maxRecDepth 100000 in
theorem qv_t70 : Cond.static qx_e70.2.1 ∈ lw_tbl := qv_in4 (List.mem_of_getElem? (i := 7) rfl)
set_option maxRecDepth 100000 in
theorem qv_i71 : Cond.instanceMethod qx_e71.2.1 ∈ lw_tbl := qv_in4 (List.mem_of_getElem? (i := 10) rfl)
set_option maxRecDepth 100000 in
theorem qv_s71 : Cond.selects qx_e71.2.1.cls qx_e71.2.1 qx_e71.2.1 ∈ lw_tbl := qv_in4 (List.mem_of_getElem? (i := 11) rfl)
set_option maxRecDepth 100000 in
theorem qv_i72 : Cond.instanceMethod qx_e72.2.1 ∈ lw_tbl := qv_in4 (List.mem_of_getElem? (i := 14) rfl)
set_option maxRecDepth 100000 in
theorem qv_s72 : Cond.selects qx_e72.2.1.cls qx_e72.2.1 qx_e72.2.1 ∈ lw_tbl := qv_in4 (List.mem_of_getElem? (i := 15) rfl)
set_option maxRecDepth 100000 in
theorem qv_i73 : Cond.instanceMethod qx_e73.2.1 ∈ lw_tbl := qv_in4 (List.mem_of_getElem? (i := 18) rfl)
set_option maxRecDepth 100000 in
theorem qv_s73 : Cond.selects qx_e73.2.1.cls qx_e73.2.1 qx_e73.2.1 ∈ lw_tbl := qv_in4 (List.mem_of_getElem? (i := 19) rfl)
set_option maxRecDepth 100000 in
theorem qv_t74 : Cond.static qx_e74.2.1 ∈ lw_tbl := qv_in4 (List.mem_of_getElem? (i := 22) rfl)
set_option maxRecDepth 100000 in
theorem qv_i75 : Cond.instanceMethod qx_e75.2.1 ∈ lw_tbl := qv_in4 (List.mem_of_getElem? (i := 28) rfl)
set_option maxRecDepth 100000 in
theorem qv_s75 : Cond.selects qx_e75.2.1.cls qx_e75.2.1 qx_e75.2.1 ∈ lw_tbl := qv_in4 (List.mem_of_getElem? (i := 29) rfl)
set_option maxRecDepth 100000 in
theorem qv_i76 : Cond.instanceMethod qx_e76.2.1 ∈ lw_tbl := qv_in4 (List.mem_of_getElem? (i := 32) rfl)
set_option maxRecDepth 100000 in
theorem qv_s76 : Cond.selects qx_e76.2.1.cls qx_e76.2.1 qx_e76.2.1 ∈ lw_tbl := qv_in4 (List.mem_of_getElem? (i := 33) rfl)
set_option maxRecDepth 100000 in
theorem qv_i77 : Cond.instanceMethod qx_e77.2.1 ∈ lw_tbl := qv_in4 (List.mem_of_getElem? (i := 36) rfl)
set_option maxRecDepth 100000 in
theorem qv_s77 : Cond.selects qx_e77.2.1.cls qx_e77.2.1 qx_e77.2.1 ∈ lw_tbl := qv_in4 (List.mem_of_getElem? (i := 37) rfl)
set_option maxRecDepth 100000 in
theorem qv_i78 : Cond.instanceMethod qx_e78.2.1 ∈ lw_tbl := qv_in4 (List.mem_of_getElem? (i := 40) rfl)
set_option maxRecDepth 100000 in
theorem qv_s78 : Cond.selects qx_e78.2.1.cls qx_e78.2.1 qx_e78.2.1 ∈ lw_tbl := qv_in4 (List.mem_of_getElem? (i := 41) rfl)
set_option maxRecDepth 100000 in
theorem qv_i79 : Cond.instanceMethod qx_e79.2.1 ∈ lw_tbl := qv_in4 (List.mem_of_getElem? (i := 44) rfl)
set_option maxRecDepth 100000 in
theorem qv_s79 : Cond.selects qx_e79.2.1.cls qx_e79.2.1 qx_e79.2.1 ∈ lw_tbl := qv_in4 (List.mem_of_getElem? (i := 45) rfl)
set_option maxRecDepth 100000 in
theorem qv_i80 : Cond.instanceMethod qx_e80.2.1 ∈ lw_tbl := qv_in4 (List.mem_of_getElem? (i := 48) rfl)
set_option maxRecDepth 100000 in
theorem qv_s80 : Cond.selects qx_e80.2.1.cls qx_e80.2.1 qx_e80.2.1 ∈ lw_tbl := qv_in4 (List.mem_of_getElem? (i := 49) rfl)
set_option maxRecDepth 100000 in
theorem qv_i81 : Cond.instanceMethod qx_e81.2.1 ∈ lw_tbl := qv_in4 (List.mem_of_getElem? (i := 54) rfl)
set_option maxRecDepth 100000 in
theorem qv_s81 : Cond.selects qx_e81.2.1.cls qx_e81.2.1 qx_e81.2.1 ∈ lw_tbl := qv_in4 (List.mem_of_getElem? (i := 55) rfl)
set_option maxRecDepth 100000 in
theorem qv_t82 : Cond.static qx_e82.2.1 ∈ lw_tbl := qv_in4 (List.mem_of_getElem? (i := 58) rfl)
set_option maxRecDepth 100000 in
theorem qv_t83 : Cond.static qx_e83.2.1 ∈ lw_tbl := qv_in4 (List.mem_of_getElem? (i := 61) rfl)
set_option maxRecDepth 100000 in
theorem qv_i84 : Cond.instanceMethod qx_e84.2.1 ∈ lw_tbl := qv_in4 (List.mem_of_getElem? (i := 65) rfl)
set_option maxRecDepth 100000 in
theorem qv_s84 : Cond.selects qx_e84.2.1.cls qx_e84.2.1 qx_e84.2.1 ∈ lw_tbl := qv_in4 (List.mem_of_getElem? (i := 66) rfl)
set_option maxRecDepth 100000 in
theorem qv_i85 : Cond.instanceMethod qx_e85.2.1 ∈ lw_tbl := qv_in4 (List.mem_of_getElem? (i := 69) rfl)
set_option maxRecDepth 100000 in
theorem qv_s85 : Cond.selects qx_e85.2.1.cls qx_e85.2.1 qx_e85.2.1 ∈ lw_tbl := qv_in4 (List.mem_of_getElem? (i := 70) rfl)
set_option maxRecDepth 100000 in
theorem qv_i86 : Cond.instanceMethod qx_e86.2.1 ∈ lw_tbl := qv_in4 (List.mem_of_getElem? (i := 73) rfl)
set_option maxRecDepth 100000 in
theorem qv_s86 : Cond.selects qx_e86.2.1.cls qx_e86.2.1 qx_e86.2.1 ∈ lw_tbl := qv_in4 (List.mem_of_getElem? (i := 74) rfl)
set_option maxRecDepth 100000 in
theorem qv_i87 : Cond.instanceMethod qx_e87.2.1 ∈ lw_tbl := qv_in4 (List.mem_of_getElem? (i := 78) rfl)
set_option maxRecDepth 100000 in
theorem qv_s87 : Cond.selects qx_e87.2.1.cls qx_e87.2.1 qx_e87.2.1 ∈ lw_tbl := qv_in4 (List.mem_of_getElem? (i := 79) rfl)
set_option maxRecDepth 100000 in
theorem qv_i88 : Cond.instanceMethod qx_e88.2.1 ∈ lw_tbl := qv_in4 (List.mem_of_getElem? (i := 82) rfl)
set_option maxRecDepth 100000 in
theorem qv_s88 : Cond.selects qx_e88.2.1.cls qx_e88.2.1 qx_e88.2.1 ∈ lw_tbl := qv_in4 (List.mem_of_getElem? (i := 83) rfl)
set_option maxRecDepth 100000 in
theorem qv_i89 : Cond.instanceMethod qx_e89.2.1 ∈ lw_tbl := qv_in4 (List.mem_of_getElem? (i := 88) rfl)
set_option maxRecDepth 100000 in
theorem qv_s89 : Cond.selects qx_e89.2.1.cls qx_e89.2.1 qx_e89.2.1 ∈ lw_tbl := qv_in4 (List.mem_of_getElem? (i := 89) rfl)
set_option maxRecDepth 100000 in
theorem qv_i90 : Cond.instanceMethod qx_e90.2.1 ∈ lw_tbl := qv_in4 (List.mem_of_getElem? (i := 92) rfl)
set_option maxRecDepth 100000 in
theorem qv_s90 : Cond.selects qx_e90.2.1.cls qx_e90.2.1 qx_e90.2.1 ∈ lw_tbl := qv_in4 (List.mem_of_getElem? (i := 93) rfl)
set_option maxRecDepth 100000 in
theorem qv_i91 : Cond.instanceMethod qx_e91.2.1 ∈ lw_tbl := qv_in4 (List.mem_of_getElem? (i := 96) rfl)
set_option maxRecDepth 100000 in
theorem qv_s91 : Cond.selects qx_e91.2.1.cls qx_e91.2.1 qx_e91.2.1 ∈ lw_tbl := qv_in4 (List.mem_of_getElem? (i := 97) rfl)
set_option maxRecDepth 100000 in
theorem qv_i92 : Cond.instanceMethod qx_e92.2.1 ∈ lw_tbl := qv_in4 (List.mem_of_getElem? (i := 101) rfl)
set_option maxRecDepth 100000 in
theorem qv_s92 : Cond.selects qx_e92.2.1.cls qx_e92.2.1 qx_e92.2.1 ∈ lw_tbl := qv_in4 (List.mem_of_getElem? (i := 102) rfl)
set_option maxRecDepth 100000 in
theorem qv_t93 : Cond.static qx_e93.2.1 ∈ lw_tbl := qv_in4 (List.mem_of_getElem? (i := 105) rfl)
set_option maxRecDepth 100000 in
theorem qv_i94 : Cond.instanceMethod qx_e94.2.1 ∈ lw_tbl := qv_in4 (List.mem_of_getElem? (i := 111) rfl)
set_option maxRecDepth 100000 in
theorem qv_s94 : Cond.selects qx_e94.2.1.cls qx_e94.2.1 qx_e94.2.1 ∈ lw_tbl := qv_in4 (List.mem_of_getElem? (i := 112) rfl)
set_option maxRecDepth 100000 in
theorem qv_i95 : Cond.instanceMethod qx_e95.2.1 ∈ lw_tbl := qv_in4 (List.mem_of_getElem? (i := 118) rfl)
set_option maxRecDepth 100000 in
theorem qv_s95 : Cond.selects qx_e95.2.1.cls qx_e95.2.1 qx_e95.2.1 ∈ lw_tbl := qv_in4 (List.mem_of_getElem? (i := 119) rfl)
set_option maxRecDepth 100000 in
theorem qv_i96 : Cond.instanceMethod qx_e96.2.1 ∈ lw_tbl := qv_in4 (List.mem_of_getElem? (i := 124) rfl)
theorem qv_s96 : Cond.selects qx_e96.2.1.cls qx_e96.2.1 qx_e96.2.1 ∈ lw_tbl := List.mem_of_getElem? (i := 11) (by decide +kernel)
set_option maxRecDepth 100000 in
theorem qv_i97 : Cond.instanceMethod qx_e97.2.1 ∈ lw_tbl := qv_in4 (List.mem_of_getElem? (i := 129) rfl)
set_option maxRecDepth 100000 in
theorem qv_s97 : Cond.selects qx_e97.2.1.cls qx_e97.2.1 qx_e97.2.1 ∈ lw_tbl := qv_in4 (List.mem_of_getElem? (i := 130) rfl)
set_option maxRecDepth 100000 in
theorem qv_t98 : Cond.static qx_e98.2.1 ∈ lw_tbl := qv_in4 (List.mem_of_getElem? (i := 135) rfl)
set_option maxRecDepth 100000 in
theorem qv_i99 : Cond.instanceMethod qx_e99.2.1 ∈ lw_tbl := qv_in4 (List.mem_of_getElem? (i := 138) rfl)
set_option maxRecDepth 100000 in
theorem qv_s99 : Cond.selects qx_e99.2.1.cls qx_e99.2.1 qx_e99.2.1 ∈ lw_tbl := qv_in4 (List.mem_of_getElem? (i := 139) rfl)
set_option maxRecDepth 100000 in
theorem qv_t100 : Cond.static qx_e100.2.1 ∈ lw_tbl := qv_in4 (List.mem_of_getElem? (i := 142) rfl)
set_option maxRecDepth 100000 in
theorem qv_i101 : Cond.instanceMethod qx_e101.2.1 ∈ lw_tbl := qv_in4 (List.mem_of_getElem? (i := 145) rfl)
set_option maxRecDepth 100000 in
theorem qv_s101 : Cond.selects qx_e101.2.1.cls qx_e101.2.1 qx_e101.2.1 ∈ lw_tbl := qv_in4 (List.mem_of_getElem? (i := 146) rfl)
set_option maxRecDepth 100000 in
theorem qv_i102 : Cond.instanceMethod qx_e102.2.1 ∈ lw_tbl := qv_in4 (List.mem_of_getElem? (i := 149) rfl)
set_option maxRecDepth 100000 in
theorem qv_s102 : Cond.selects qx_e102.2.1.cls qx_e102.2.1 qx_e102.2.1 ∈ lw_tbl := qv_in4 (List.mem_of_getElem? (i := 150) rfl)
set_option maxRecDepth 100000 in
theorem qv_i103 : Cond.instanceMethod qx_e103.2.1 ∈ lw_tbl := qv_in4 (List.mem_of_getElem? (i := 153) rfl)
set_option maxRecDepth 100000 in
theorem qv_s103 : Cond.selects qx_e103.2.1.cls qx_e103.2.1 qx_e103.2.1 ∈ lw_tbl := qv_in4 (List.mem_of_getElem? (i := 154) rfl)
set_option maxRecDepth 100000 in
theorem qv_i104 : Cond.instanceMethod qx_e104.2.1 ∈ lw_tbl := qv_in4 (List.mem_of_getElem? (i := 157) rfl)
set_option maxRecDepth 100000 in
theorem qv_s104 : Cond.selects qx_e104.2.1.cls qx_e104.2.1 qx_e104.2.1 ∈ lw_tbl := qv_in4 (List.mem_of_getElem? (i := 158) rfl)
set_option maxRecDepth 100000 in
theorem qv_i105 : Cond.instanceMethod qx_e105.2.1 ∈ lw_tbl := qv_in4 (List.mem_of_getElem? (i := 162) rfl)
set_option maxRecDepth 100000 in
theorem qv_s105 : Cond.selects qx_e105.2.1.cls qx_e105.2.1 qx_e105.2.1 ∈ lw_tbl := qv_in4 (List.mem_of_getElem? (i := 163) rfl)
set_option maxRecDepth 100000 in
theorem qv_i106 : Cond.instanceMethod qx_e106.2.1 ∈ lw_tbl := qv_in4 (List.mem_of_getElem? (i := 166) rfl)
set_option maxRecDepth 100000 in
theorem qv_s106 : Cond.selects qx_e106.2.1.cls qx_e106.2.1 qx_e106.2.1 ∈ lw_tbl := qv_in4 (List.mem_of_getElem? (i := 167) rfl)
set_option maxRecDepth 100000 in
theorem qv_i107 : Cond.instanceMethod qx_e107.2.1 ∈ lw_tbl := qv_in4 (List.mem_of_getElem? (i := 172) rfl)
set_option maxRecDepth 100000 in
theorem qv_s107 : Cond.selects qx_e107.2.1.cls qx_e107.2.1 qx_e107.2.1 ∈ lw_tbl := qv_in4 (List.mem_of_getElem? (i := 173) rfl)
set_option maxRecDepth 100000 in
theorem qv_i108 : Cond.instanceMethod qx_e108.2.1 ∈ lw_tbl := qv_in4 (List.mem_of_getElem? (i := 176) rfl)
set_option maxRecDepth 100000 in
theorem qv_s108 : Cond.selects qx_e108.2.1.cls qx_e108.2.1 qx_e108.2.1 ∈ lw_tbl := qv_in4 (List.mem_of_getElem? (i := 177) rfl)
set_option maxRecDepth 100000 in
theorem qv_t109 : Cond.static qx_e109.2.1 ∈ lw_tbl := qv_in4 (List.mem_of_getElem? (i := 180) rfl)
set_option maxRecDepth 100000 in
theorem qv_i110 : Cond.instanceMethod qx_e110.2.1 ∈ lw_tbl := qv_in4 (List.mem_of_getElem? (i := 183) rfl)
set_option maxRecDepth 100000 in
theorem qv_s110 : Cond.selects qx_e110.2.1.cls qx_e110.2.1 qx_e110.2.1 ∈ lw_tbl := qv_in4 (List.mem_of_getElem? (i := 184) rfl)
set_option maxRecDepth 100000 in
theorem qv_i111 : Cond.instanceMethod qx_e111.2.1 ∈ lw_tbl := qv_in4 (List.mem_of_getElem? (i := 188) rfl)
set_option maxRecDepth 100000 in
theorem qv_s111 : Cond.selects qx_e111.2.1.cls qx_e111.2.1 qx_e111.2.1 ∈ lw_tbl := qv_in4 (List.mem_of_getElem? (i := 189) rfl)
set_option maxRecDepth 100000 in
theorem qv_i112 : Cond.instanceMethod qx_e112.2.1 ∈ lw_tbl := qv_in4 (List.mem_of_getElem? (i := 194) rfl)
set_option maxRecDepth 100000 in
theorem qv_s112 : Cond.selects qx_e112.2.1.cls qx_e112.2.1 qx_e112.2.1 ∈ lw_tbl := qv_in4 (List.mem_of_getElem? (i := 195) rfl)
set_option maxRecDepth 100000 in
theorem qv_i113 : Cond.instanceMethod qx_e113.2.1 ∈ lw_tbl := qv_in4 (List.mem_of_getElem? (i := 199) rfl)
theorem qv_s113 : Cond.selects qx_e113.2.1.cls qx_e113.2.1 qx_e113.2.1 ∈ lw_tbl := List.mem_of_getElem? (i := 12) (by decide +kernel)
set_option maxRecDepth 100000 in
theorem qv_i114 : Cond.instanceMethod qx_e114.2.1 ∈ lw_tbl := qv_in4 (List.mem_of_getElem? (i := 203) rfl)
theorem qv_s114 : Cond.selects qx_e114.2.1.cls qx_e114.2.1 qx_e114.2.1 ∈ lw_tbl := List.mem_of_getElem? (i := 13) (by decide +kernel)
set_option maxRecDepth 100000 in
theorem qv_t115 : Cond.static qx_e115.2.1 ∈ lw_tbl := qv_in4 (List.mem_of_getElem? (i := 206) rfl)
set_option maxRecDepth 100000 in
theorem qv_i116 : Cond.instanceMethod qx_e116.2.1 ∈ lw_tbl := qv_in4 (List.mem_of_getElem? (i := 214) rfl)
theorem qv_s116 : Cond.selects qx_e116.2.1.cls qx_e116.2.1 qx_e116.2.1 ∈ lw_tbl := List.mem_of_getElem? (i := 14) (by decide +kernel)
set_option maxRecDepth 100000 in
theorem qv_i117 : Cond.instanceMethod qx_e117.2.1 ∈ lw_tbl := qv_in4 (List.mem_of_getElem? (i := 217) rfl)
set_option maxRecDepth 100000 in
theorem qv_s117 : Cond.selects qx_e117.2.1.cls qx_e117.2.1 qx_e117.2.1 ∈ lw_tbl := qv_in4 (List.mem_of_getElem? (i := 218) rfl)
set_option maxRecDepth 100000 in
theorem qv_i118 : Cond.instanceMethod qx_e118.2.1 ∈ lw_tbl := qv_in4 (List.mem_of_getElem? (i := 221) rfl)
set_option maxRecDepth 100000 in
theorem qv_s118 : Cond.selects qx_e118.2.1.cls qx_e118.2.1 qx_e118.2.1 ∈ lw_tbl := qv_in4 (List.mem_of_getElem? (i := 222) rfl)
set_option maxRecDepth 100000 in
theorem qv_i119 : Cond.instanceMethod qx_e119.2.1 ∈ lw_tbl := qv_in4 (List.mem_of_getElem? (i := 226) rfl)
theorem qv_s119 : Cond.selects qx_e119.2.1.cls qx_e119.2.1 qx_e119.2.1 ∈ lw_tbl := List.mem_of_getElem? (i := 15) (by decide +kernel)
set_option maxRecDepth 100000 in
theorem qv_i120 : Cond.instanceMethod qx_e120.2.1 ∈ lw_tbl := qv_in4 (List.mem_of_getElem? (i := 231) rfl)
set_option maxRecDepth 100000 in
theorem qv_s120 : Cond.selects qx_e120.2.1.cls qx_e120.2.1 qx_e120.2.1 ∈ lw_tbl := qv_in4 (List.mem_of_getElem? (i := 232) rfl)
set_option maxRecDepth 100000 in
theorem qv_i121 : Cond.instanceMethod qx_e121.2.1 ∈ lw_tbl := qv_in4 (List.mem_of_getElem? (i := 235) rfl)
set_option maxRecDepth 100000 in
theorem qv_s121 : Cond.selects qx_e121.2.1.cls qx_e121.2.1 qx_e121.2.1 ∈ lw_tbl := qv_in4 (List.mem_of_getElem? (i := 236) rfl)
set_option maxRecDepth 100000 in
theorem qv_i122 : Cond.instanceMethod qx_e122.2.1 ∈ lw_tbl := qv_in4 (List.mem_of_getElem? (i := 239) rfl)
set_option maxRecDepth 100000 in
theorem qv_s122 : Cond.selects qx_e122.2.1.cls qx_e122.2.1 qx_e122.2.1 ∈ lw_tbl := qv_in5 (List.mem_of_getElem? (i := 0) rfl)
set_option maxRecDepth 100000 in
theorem qv_i123 : Cond.instanceMethod qx_e123.2.1 ∈ lw_tbl := qv_in5 (List.mem_of_getElem? (i := 5) rfl)
theorem qv_s123 : Cond.selects qx_e123.2.1.cls qx_e123.2.1 qx_e123.2.1 ∈ lw_tbl := List.mem_of_getElem? (i := 16) (by decide +kernel)
set_option maxRecDepth 100000 in
theorem qv_i124 : Cond.instanceMethod qx_e124.2.1 ∈ lw_tbl := qv_in5 (List.mem_of_getElem? (i := 11) rfl)
set_option maxRecDepth 100000 in
theorem qv_s124 : Cond.selects qx_e124.2.1.cls qx_e124.2.1 qx_e124.2.1 ∈ lw_tbl := qv_in5 (List.mem_of_getElem? (i := 12) rfl)
set_option maxRecDepth 100000 in
theorem qv_i125 : Cond.instanceMethod qx_e125.2.1 ∈ lw_tbl := qv_in5 (List.mem_of_getElem? (i := 17) rfl)
set_option maxRecDepth 100000 in
theorem qv_s125 : Cond.selects qx_e125.2.1.cls qx_e125.2.1 qx_e125.2.1 ∈ lw_tbl := qv_in5 (List.mem_of_getElem? (i := 18) rfl)
set_option maxRecDepth 100000 in
theorem qv_i126 : Cond.instanceMethod qx_e126.2.1 ∈ lw_tbl := qv_in5 (List.mem_of_getElem? (i := 23) rfl)
set_option maxRecDepth 100000 in
theorem qv_s126 : Cond.selects qx_e126.2.1.cls qx_e126.2.1 qx_e126.2.1 ∈ lw_tbl := qv_in5 (List.mem_of_getElem? (i := 24) rfl)
set_option maxRecDepth 100000 in
theorem qv_i127 : Cond.instanceMethod qx_e127.2.1 ∈ lw_tbl := qv_in5 (List.mem_of_getElem? (i := 27) rfl)
set_option maxRecDepth 100000 in
theorem qv_s127 : Cond.selects qx_e127.2.1.cls qx_e127.2.1 qx_e127.2.1 ∈ lw_tbl := qv_in5 (List.mem_of_getElem? (i := 28) rfl)
set_option maxRecDepth 100000 in
theorem qv_i128 : Cond.instanceMethod qx_e128.2.1 ∈ lw_tbl := qv_in5 (List.mem_of_getElem? (i := 31) rfl)
set_option maxRecDepth 100000 in
theorem qv_s128 : Cond.selects qx_e128.2.1.cls qx_e128.2.1 qx_e128.2.1 ∈ lw_tbl := qv_in5 (List.mem_of_getElem? (i := 32) rfl)
set_option maxRecDepth 100000 in
theorem qv_i129 : Cond.instanceMethod qx_e129.2.1 ∈ lw_tbl := qv_in5 (List.mem_of_getElem? (i := 36) rfl)
theorem qv_s129 : Cond.selects qx_e129.2.1.cls qx_e129.2.1 qx_e129.2.1 ∈ lw_tbl := List.mem_of_getElem? (i := 17) (by decide +kernel)
set_option maxRecDepth 100000 in
theorem qv_i130 : Cond.instanceMethod qx_e130.2.1 ∈ lw_tbl := qv_in5 (List.mem_of_getElem? (i := 41) rfl)
set_option maxRecDepth 100000 in
theorem qv_s130 : Cond.selects qx_e130.2.1.cls qx_e130.2.1 qx_e130.2.1 ∈ lw_tbl := qv_in5 (List.mem_of_getElem? (i := 42) rfl)
set_option maxRecDepth 100000 in
theorem qv_i131 : Cond.instanceMethod qx_e131.2.1 ∈ lw_tbl := qv_in5 (List.mem_of_getElem? (i := 46) rfl)
theorem qv_s131 : Cond.selects qx_e131.2.1.cls qx_e131.2.1 qx_e131.2.1 ∈ lw_tbl := List.mem_of_getElem? (i := 18) (by decide +kernel)
set_option maxRecDepth 100000 in
theorem qv_i132 : Cond.instanceMethod qx_e132.2.1 ∈ lw_tbl := qv_in5 (List.mem_of_getElem? (i := 50) rfl)
theorem qv_s132 : Cond.selects qx_e132.2.1.cls qx_e132.2.1 qx_e132.2.1 ∈ lw_tbl := List.mem_of_getElem? (i := 19) (by decide +kernel)
set_option maxRecDepth 100000 in
theorem qv_i133 : Cond.instanceMethod qx_e133.2.1 ∈ lw_tbl := qv_in5 (List.mem_of_getElem? (i := 53) rfl)
set_option maxRecDepth 100000 in
theorem qv_s133 : Cond.selects qx_e133.2.1.cls qx_e133.2.1 qx_e133.2.1 ∈ lw_tbl := qv_in5 (List.mem_of_getElem? (i := 54) rfl)
set_option maxRecDepth 100000 in
theorem qv_i134 : Cond.instanceMethod qx_e134.2.1 ∈ lw_tbl := qv_in5 (List.mem_of_getElem? (i := 57) rfl)
set_option maxRecDepth 100000 in
theorem qv_s134 : Cond.selects qx_e134.2.1.cls qx_e134.2.1 qx_e134.2.1 ∈ lw_tbl := qv_in5 (List.mem_of_getElem? (i := 58) rfl)
set_option maxRecDepth 100000 in
theorem qv_i135 : Cond.instanceMethod qx_e135.2.1 ∈ lw_tbl := qv_in5 (List.mem_of_getElem? (i := 62) rfl)
theorem qv_s135 : Cond.selects qx_e135.2.1.cls qx_e135.2.1 qx_e135.2.1 ∈ lw_tbl := List.mem_of_getElem? (i := 20) (by decide +kernel)
set_option maxRecDepth 100000 in
theorem qv_i136 : Cond.instanceMethod qx_e136.2.1 ∈ lw_tbl := qv_in5 (List.mem_of_getElem? (i := 67) rfl)
set_option maxRecDepth 100000 in
theorem qv_s136 : Cond.selects qx_e136.2.1.cls qx_e136.2.1 qx_e136.2.1 ∈ lw_tbl := qv_in5 (List.mem_of_getElem? (i := 68) rfl)
set_option maxRecDepth 100000 in
theorem qv_i137 : Cond.instanceMethod qx_e137.2.1 ∈ lw_tbl := qv_in5 (List.mem_of_getElem? (i := 74) rfl)
theorem qv_s137 : Cond.selects qx_e137.2.1.cls qx_e137.2.1 qx_e137.2.1 ∈ lw_tbl := List.mem_of_getElem? (i := 21) (by decide +kernel)
set_option maxRecDepth 100000 in
theorem qv_i138 : Cond.instanceMethod qx_e138.2.1 ∈ lw_tbl := qv_in5 (List.mem_of_getElem? (i := 79) rfl)
set_option maxRecDepth 100000 in
theorem qv_s138 : Cond.selects qx_e138.2.1.cls qx_e138.2.1 qx_e138.2.1 ∈ lw_tbl := qv_in5 (List.mem_of_getElem? (i := 80) rfl)
set_option maxRecDepth 100000 in
theorem qv_i139 : Cond.instanceMethod qx_e139.2.1 ∈ lw_tbl := qv_in5 (List.mem_of_getElem? (i := 83) rfl)
set_option maxRecDepth 100000 in
theorem qv_s139 : Cond.selects qx_e139.2.1.cls qx_e139.2.1 qx_e139.2.1 ∈ lw_tbl := qv_in5 (List.mem_of_getElem? (i := 84) rfl)
set_option maxRecDepth 100000 in
theorem qv_i140 : Cond.instanceMethod qx_e140.2.1 ∈ lw_tbl := qv_in5 (List.mem_of_getElem? (i := 87) rfl)
set_option maxRecDepth 100000 in
theorem qv_s140 : Cond.selects qx_e140.2.1.cls qx_e140.2.1 qx_e140.2.1 ∈ lw_tbl := qv_in5 (List.mem_of_getElem? (i := 88) rfl)
set_option maxRecDepth 100000 in
theorem qv_i141 : Cond.instanceMethod qx_e141.2.1 ∈ lw_tbl := qv_in5 (List.mem_of_getElem? (i := 91) rfl)
set_option maxRecDepth 100000 in
theorem qv_s141 : Cond.selects qx_e141.2.1.cls qx_e141.2.1 qx_e141.2.1 ∈ lw_tbl := qv_in5 (List.mem_of_getElem? (i := 92) rfl)
set_option maxRecDepth 100000 in
theorem qv_i142 : Cond.instanceMethod qx_e142.2.1 ∈ lw_tbl := qv_in5 (List.mem_of_getElem? (i := 95) rfl)
set_option maxRecDepth 100000 in
theorem qv_s142 : Cond.selects qx_e142.2.1.cls qx_e142.2.1 qx_e142.2.1 ∈ lw_tbl := qv_in5 (List.mem_of_getElem? (i := 96) rfl)
set_option maxRecDepth 100000 in
theorem qv_i143 : Cond.instanceMethod qx_e143.2.1 ∈ lw_tbl := qv_in5 (List.mem_of_getElem? (i := 99) rfl)
set_option maxRecDepth 100000 in
theorem qv_s143 : Cond.selects qx_e143.2.1.cls qx_e143.2.1 qx_e143.2.1 ∈ lw_tbl := qv_in5 (List.mem_of_getElem? (i := 100) rfl)
set_option maxRecDepth 100000 in
theorem qv_i144 : Cond.instanceMethod qx_e144.2.1 ∈ lw_tbl := qv_in5 (List.mem_of_getElem? (i := 104) rfl)
set_option maxRecDepth 100000 in
theorem qv_s144 : Cond.selects qx_e144.2.1.cls qx_e144.2.1 qx_e144.2.1 ∈ lw_tbl := qv_in5 (List.mem_of_getElem? (i := 105) rfl)
set_option maxRecDepth 100000 in
theorem qv_i145 : Cond.instanceMethod qx_e145.2.1 ∈ lw_tbl := qv_in5 (List.mem_of_getElem? (i := 108) rfl)
set_option maxRecDepth 100000 in
theorem qv_s145 : Cond.selects qx_e145.2.1.cls qx_e145.2.1 qx_e145.2.1 ∈ lw_tbl := qv_in5 (List.mem_of_getElem? (i := 109) rfl)
set_option maxRecDepth 100000 in
theorem qv_i146 : Cond.instanceMethod qx_e146.2.1 ∈ lw_tbl := qv_in5 (List.mem_of_getElem? (i := 112) rfl)
set_option maxRecDepth 100000 in
theorem qv_s146 : Cond.selects qx_e146.2.1.cls qx_e146.2.1 qx_e146.2.1 ∈ lw_tbl := qv_in5 (List.mem_of_getElem? (i := 113) rfl)
set_option maxRecDepth 100000 in
theorem qv_i147 : Cond.instanceMethod qx_e147.2.1 ∈ lw_tbl := qv_in5 (List.mem_of_getElem? (i := 116) rfl)
set_option maxRecDepth 100000 in
theorem qv_s147 : Cond.selects qx_e147.2.1.cls qx_e147.2.1 qx_e147.2.1 ∈ lw_tbl := qv_in5 (List.mem_of_getElem? (i := 117) rfl)
set_option maxRecDepth 100000 in
theorem qv_i148 : Cond.instanceMethod qx_e148.2.1 ∈ lw_tbl := qv_in5 (List.mem_of_getElem? (i := 120) rfl)
set_option maxRecDepth 100000 in
theorem qv_s148 : Cond.selects qx_e148.2.1.cls qx_e148.2.1 qx_e148.2.1 ∈ lw_tbl := qv_in5 (List.mem_of_getElem? (i := 121) rfl)
set_option maxRecDepth 100000 in
theorem qv_i149 : Cond.instanceMethod qx_e149.2.1 ∈ lw_tbl := qv_in5 (List.mem_of_getElem? (i := 124) rfl)
set_option maxRecDepth 100000 in
theorem qv_s149 : Cond.selects qx_e149.2.1.cls qx_e149.2.1 qx_e149.2.1 ∈ lw_tbl := qv_in5 (List.mem_of_getElem? (i := 125) rfl)
set_option maxRecDepth 100000 in
theorem qv_i150 : Cond.instanceMethod qx_e150.2.1 ∈ lw_tbl := qv_in5 (List.mem_of_getElem? (i := 128) rfl)
set_option maxRecDepth 100000 in
theorem qv_s150 : Cond.selects qx_e150.2.1.cls qx_e150.2.1 qx_e150.2.1 ∈ lw_tbl := qv_in5 (List.mem_of_getElem? (i := 129) rfl)
set_option maxRecDepth 100000 in
theorem qv_i151 : Cond.instanceMethod qx_e151.2.1 ∈ lw_tbl := qv_in5 (List.mem_of_getElem? (i := 133) rfl)
theorem qv_s151 : Cond.selects qx_e151.2.1.cls qx_e151.2.1 qx_e151.2.1 ∈ lw_tbl := List.mem_of_getElem? (i := 22) (by decide +kernel)
set_option maxRecDepth 100000 in
theorem qv_i152 : Cond.instanceMethod qx_e152.2.1 ∈ lw_tbl := qv_in5 (List.mem_of_getElem? (i := 137) rfl)
theorem qv_s152 : Cond.selects qx_e152.2.1.cls qx_e152.2.1 qx_e152.2.1 ∈ lw_tbl := List.mem_of_getElem? (i := 23) (by decide +kernel)
set_option maxRecDepth 100000 in
theorem qv_i153 : Cond.instanceMethod qx_e153.2.1 ∈ lw_tbl := qv_in5 (List.mem_of_getElem? (i := 145) rfl)
theorem qv_s153 : Cond.selects qx_e153.2.1.cls qx_e153.2.1 qx_e153.2.1 ∈ lw_tbl := List.mem_of_getElem? (i := 24) (by decide +kernel)
set_option maxRecDepth 100000 in
theorem qv_i154 : Cond.instanceMethod qx_e154.2.1 ∈ lw_tbl := qv_in5 (List.mem_of_getElem? (i := 148) rfl)
set_option maxRecDepth 100000 in
theorem qv_s154 : Cond.selects qx_e154.2.1.cls qx_e154.2.1 qx_e154.2.1 ∈ lw_tbl := qv_in5 (List.mem_of_getElem? (i := 149) rfl)
set_option maxRecDepth 100000 in
theorem qv_i155 : Cond.instanceMethod qx_e155.2.1 ∈ lw_tbl := qv_in5 (List.mem_of_getElem? (i := 152) rfl)
set_option maxRecDepth 100000 in
theorem qv_s155 : Cond.selects qx_e155.2.1.cls qx_e155.2.1 qx_e155.2.1 ∈ lw_tbl := qv_in5 (List.mem_of_getElem? (i := 153) rfl)
set_option maxRecDepth 100000 in
theorem qv_i156 : Cond.instanceMethod qx_e156.2.1 ∈ lw_tbl := qv_in5 (List.mem_of_getElem? (i := 156) rfl)
set_option maxRecDepth 100000 in
theorem qv_s156 : Cond.selects qx_e156.2.1.cls qx_e156.2.1 qx_e156.2.1 ∈ lw_tbl := qv_in5 (List.mem_of_getElem? (i := 157) rfl)
set_option maxRecDepth 100000 in
theorem qv_i157 : Cond.instanceMethod qx_e157.2.1 ∈ lw_tbl := qv_in5 (List.mem_of_getElem? (i := 160) rfl)
set_option maxRecDepth 100000 in
theorem qv_s157 : Cond.selects qx_e157.2.1.cls qx_e157.2.1 qx_e157.2.1 ∈ lw_tbl := qv_in5 (List.mem_of_getElem? (i := 161) rfl)
set_option maxRecDepth 100000 in
theorem qv_i158 : Cond.instanceMethod qx_e158.2.1 ∈ lw_tbl := qv_in5 (List.mem_of_getElem? (i := 164) rfl)
set_option maxRecDepth 100000 in
theorem qv_s158 : Cond.selects qx_e158.2.1.cls qx_e158.2.1 qx_e158.2.1 ∈ lw_tbl := qv_in5 (List.mem_of_getElem? (i := 165) rfl)
set_option maxRecDepth 100000 in
theorem qv_i159 : Cond.instanceMethod qx_e159.2.1 ∈ lw_tbl := qv_in5 (List.mem_of_getElem? (i := 168) rfl)
set_option maxRecDepth 100000 in
theorem qv_s159 : Cond.selects qx_e159.2.1.cls qx_e159.2.1 qx_e159.2.1 ∈ lw_tbl := qv_in5 (List.mem_of_getElem? (i := 169) rfl)
set_option maxRecDepth 100000 in
theorem qv_i160 : Cond.instanceMethod qx_e160.2.1 ∈ lw_tbl := qv_in5 (List.mem_of_getElem? (i := 172) rfl)
set_option maxRecDepth 100000 in
theorem qv_s160 : Cond.selects qx_e160.2.1.cls qx_e160.2.1 qx_e160.2.1 ∈ lw_tbl := qv_in5 (List.mem_of_getElem? (i := 173) rfl)
set_option maxRecDepth 100000 in
theorem qv_i161 : Cond.instanceMethod qx_e161.2.1 ∈ lw_tbl := qv_in5 (List.mem_of_getElem? (i := 177) rfl)
set_option maxRecDepth 100000 in
theorem qv_s161 : Cond.selects qx_e161.2.1.cls qx_e161.2.1 qx_e161.2.1 ∈ lw_tbl := qv_in5 (List.mem_of_getElem? (i := 178) rfl)
set_option maxRecDepth 100000 in
theorem qv_t162 : Cond.static qx_e162.2.1 ∈ lw_tbl := qv_in5 (List.mem_of_getElem? (i := 181) rfl)
set_option maxRecDepth 100000 in
theorem qv_i163 : Cond.instanceMethod qx_e163.2.1 ∈ lw_tbl := qv_in5 (List.mem_of_getElem? (i := 184) rfl)
set_option maxRecDepth 100000 in
theorem qv_s163 : Cond.selects qx_e163.2.1.cls qx_e163.2.1 qx_e163.2.1 ∈ lw_tbl := qv_in5 (List.mem_of_getElem? (i := 185) rfl)
set_option maxRecDepth 100000 in
theorem qv_i164 : Cond.instanceMethod qx_e164.2.1 ∈ lw_tbl := qv_in5 (List.mem_of_getElem? (i := 189) rfl)
set_option maxRecDepth 100000 in
theorem qv_s164 : Cond.selects qx_e164.2.1.cls qx_e164.2.1 qx_e164.2.1 ∈ lw_tbl := qv_in5 (List.mem_of_getElem? (i := 190) rfl)
set_option maxRecDepth 100000 in
theorem qv_i165 : Cond.instanceMethod qx_e165.2.1 ∈ lw_tbl := qv_in5 (List.mem_of_getElem? (i := 194) rfl)
set_option maxRecDepth 100000 in
theorem qv_s165 : Cond.selects qx_e165.2.1.cls qx_e165.2.1 qx_e165.2.1 ∈ lw_tbl := qv_in5 (List.mem_of_getElem? (i := 195) rfl)
set_option maxRecDepth 100000 in
theorem qv_i166 : Cond.instanceMethod qx_e166.2.1 ∈ lw_tbl := qv_in5 (List.mem_of_getElem? (i := 198) rfl)
set_option maxRecDepth 100000 in
theorem qv_s166 : Cond.selects qx_e166.2.1.cls qx_e166.2.1 qx_e166.2.1 ∈ lw_tbl := qv_in5 (List.mem_of_getElem? (i := 199) rfl)
set_option maxRecDepth 100000 in
theorem qv_i167 : Cond.instanceMethod qx_e167.2.1 ∈ lw_tbl := qv_in5 (List.mem_of_getElem? (i := 203) rfl)
set_option maxRecDepth 100000 in
theorem qv_s167 : Cond.selects qx_e167.2.1.cls qx_e167.2.1 qx_e167.2.1 ∈ lw_tbl := qv_in5 (List.mem_of_getElem? (i := 204) rfl)
set_option maxRecDepth 100000 in
theorem qv_i168 : Cond.instanceMethod qx_e168.2.1 ∈ lw_tbl := qv_in5 (List.mem_of_getElem? (i := 207) rfl)
set_option maxRecDepth 100000 in
theorem qv_s168 : Cond.selects qx_e168.2.1.cls qx_e168.2.1 qx_e168.2.1 ∈ lw_tbl := qv_in5 (List.mem_of_getElem? (i := 208) rfl)
set_option maxRecDepth 100000 in
theorem qv_t169 : Cond.static qx_e169.2.1 ∈ lw_tbl := qv_in5 (List.mem_of_getElem? (i := 211) rfl)
set_option maxRecDepth 100000 in
theorem qv_i170 : Cond.instanceMethod qx_e170.2.1 ∈ lw_tbl := qv_in5 (List.mem_of_getElem? (i := 214) rfl)
set_option maxRecDepth 100000 in
theorem qv_s170 : Cond.selects qx_e170.2.1.cls qx_e170.2.1 qx_e170.2.1 ∈ lw_tbl := qv_in5 (List.mem_of_getElem? (i := 215) rfl)
set_option maxRecDepth 100000 in
theorem qv_i171 : Cond.instanceMethod qx_e171.2.1 ∈ lw_tbl := qv_in5 (List.mem_of_getElem? (i := 220) rfl)
set_option maxRecDepth 100000 in
theorem qv_i172 : Cond.instanceMethod qx_e172.2.1 ∈ lw_tbl := qv_in6 (List.mem_of_getElem? (i := 176) rfl)
set_option maxRecDepth 100000 in
theorem qv_s172 : Cond.selects qx_e172.2.1.cls qx_e172.2.1 qx_e172.2.1 ∈ lw_tbl := qv_in6 (List.mem_of_getElem? (i := 177) rfl)
set_option maxRecDepth 100000 in
theorem qv_i173 : Cond.instanceMethod qx_e173.2.1 ∈ lw_tbl := qv_in6 (List.mem_of_getElem? (i := 180) rfl)
set_option maxRecDepth 100000 in
theorem qv_s173 : Cond.selects qx_e173.2.1.cls qx_e173.2.1 qx_e173.2.1 ∈ lw_tbl := qv_in6 (List.mem_of_getElem? (i := 181) rfl)
set_option maxRecDepth 100000 in
theorem qv_i174 : Cond.instanceMethod qx_e174.2.1 ∈ lw_tbl := qv_in6 (List.mem_of_getElem? (i := 184) rfl)
set_option maxRecDepth 100000 in
theorem qv_s174 : Cond.selects qx_e174.2.1.cls qx_e174.2.1 qx_e174.2.1 ∈ lw_tbl := qv_in6 (List.mem_of_getElem? (i := 185) rfl)
set_option maxRecDepth 100000 in
theorem qv_i175 : Cond.instanceMethod qx_e175.2.1 ∈ lw_tbl := qv_in6 (List.mem_of_getElem? (i := 189) rfl)
theorem qv_s175 : Cond.selects qx_e175.2.1.cls qx_e175.2.1 qx_e175.2.1 ∈ lw_tbl := List.mem_of_getElem? (i := 25) (by decide +kernel)
set_option maxRecDepth 100000 in
theorem qv_t176 : Cond.static qx_e176.2.1 ∈ lw_tbl := qv_in6 (List.mem_of_getElem? (i := 192) rfl)
set_option maxRecDepth 100000 in
theorem qv_i177 : Cond.instanceMethod qx_e177.2.1 ∈ lw_tbl := qv_in6 (List.mem_of_getElem? (i := 196) rfl)
set_option maxRecDepth 100000 in
theorem qv_s177 : Cond.selects qx_e177.2.1.cls qx_e177.2.1 qx_e177.2.1 ∈ lw_tbl := qv_in6 (List.mem_of_getElem? (i := 197) rfl)
set_option maxRecDepth 100000 in
theorem qv_t178 : Cond.static qx_e178.2.1 ∈ lw_tbl := qv_in6 (List.mem_of_getElem? (i := 200) rfl)
set_option maxRecDepth 100000 in
theorem qv_i179 : Cond.instanceMethod qx_e179.2.1 ∈ lw_tbl := qv_in6 (List.mem_of_getElem? (i := 206) rfl)
set_option maxRecDepth 100000 in
theorem qv_s179 : Cond.selects qx_e179.2.1.cls qx_e179.2.1 qx_e179.2.1 ∈ lw_tbl := qv_in6 (List.mem_of_getElem? (i := 207) rfl)
set_option maxRecDepth 100000 in
theorem qv_i180 : Cond.instanceMethod qx_e180.2.1 ∈ lw_tbl := qv_in6 (List.mem_of_getElem? (i := 211) rfl)
theorem qv_s180 : Cond.selects qx_e180.2.1.cls qx_e180.2.1 qx_e180.2.1 ∈ lw_tbl := List.mem_of_getElem? (i := 26) (by decide +kernel)
set_option maxRecDepth 100000 in
theorem qv_i181 : Cond.instanceMethod qx_e181.2.1 ∈ lw_tbl := qv_in6 (List.mem_of_getElem? (i := 215) rfl)
theorem qv_s181 : Cond.selects qx_e181.2.1.cls qx_e181.2.1 qx_e181.2.1 ∈ lw_tbl := List.mem_of_getElem? (i := 27) (by decide +kernel)
set_option maxRecDepth 100000 in
theorem qv_i182 : Cond.instanceMethod qx_e182.2.1 ∈ lw_tbl := qv_in6 (List.mem_of_getElem? (i := 218) rfl)
set_option maxRecDepth 100000 in
theorem qv_s182 : Cond.selects qx_e182.2.1.cls qx_e182.2.1 qx_e182.2.1 ∈ lw_tbl := qv_in6 (List.mem_of_getElem? (i := 219) rfl)
set_option maxRecDepth 100000 in
theorem qv_i183 : Cond.instanceMethod qx_e183.2.1 ∈ lw_tbl := qv_in6 (List.mem_of_getElem? (i := 223) rfl)
theorem qv_s183 : Cond.selects qx_e183.2.1.cls qx_e183.2.1 qx_e183.2.1 ∈ lw_tbl := List.mem_of_getElem? (i := 28) (by decide +kernel)
set_option maxRecDepth 100000 in
theorem qv_i184 : Cond.instanceMethod qx_e184.2.1 ∈ lw_tbl := qv_in6 (List.mem_of_getElem? (i := 226) rfl)
set_option maxRecDepth 100000 in
theorem qv_s184 : Cond.selects qx_e184.2.1.cls qx_e184.2.1 qx_e184.2.1 ∈ lw_tbl := qv_in6 (List.mem_of_getElem? (i := 227) rfl)
set_option maxRecDepth 100000 in
theorem qv_i185 : Cond.instanceMethod qx_e185.2.1 ∈ lw_tbl := qv_in6 (List.mem_of_getElem? (i := 231) rfl)
theorem qv_s185 : Cond.selects qx_e185.2.1.cls qx_e185.2.1 qx_e185.2.1 ∈ lw_tbl := List.mem_of_getElem? (i := 29) (by decide +kernel)
set_option maxRecDepth 100000 in
theorem qv_i186 : Cond.instanceMethod qx_e186.2.1 ∈ lw_tbl := qv_in6 (List.mem_of_getElem? (i := 234) rfl)
set_option maxRecDepth 100000 in
theorem qv_s186 : Cond.selects qx_e186.2.1.cls qx_e186.2.1 qx_e186.2.1 ∈ lw_tbl := qv_in6 (List.mem_of_getElem? (i := 235) rfl)
set_option maxRecDepth 100000 in
theorem qv_i187 : Cond.instanceMethod qx_e187.2.1 ∈ lw_tbl := qv_in6 (List.mem_of_getElem? (i := 239) rfl)
theorem qv_s187 : Cond.selects qx_e187.2.1.cls qx_e187.2.1 qx_e187.2.1 ∈ lw_tbl := List.mem_of_getElem? (i := 30) (by decide +kernel)
set_option maxRecDepth 100000 in
theorem qv_i188 : Cond.instanceMethod qx_e188.2.1 ∈ lw_tbl := qv_in7 (List.mem_of_getElem? (i := 3) rfl)
theorem qv_s188 : Cond.selects qx_e188.2.1.cls qx_e188.2.1 qx_e188.2.1 ∈ lw_tbl := List.mem_of_getElem? (i := 31) (by decide +kernel)
set_option maxRecDepth 100000 in
theorem qv_i189 : Cond.instanceMethod qx_e189.2.1 ∈ lw_tbl := qv_in7 (List.mem_of_getElem? (i := 7) rfl)
theorem qv_s189 : Cond.selects qx_e189.2.1.cls qx_e189.2.1 qx_e189.2.1 ∈ lw_tbl := List.mem_of_getElem? (i := 32) (by decide +kernel)
set_option maxRecDepth 100000 in
theorem qv_i190 : Cond.instanceMethod qx_e190.2.1 ∈ lw_tbl := qv_in7 (List.mem_of_getElem? (i := 10) rfl)
set_option maxRecDepth 100000 in
theorem qv_s190 : Cond.selects qx_e190.2.1.cls qx_e190.2.1 qx_e190.2.1 ∈ lw_tbl := qv_in7 (List.mem_of_getElem? (i := 11) rfl)
set_option maxRecDepth 100000 in
theorem qv_i191 : Cond.instanceMethod qx_e191.2.1 ∈ lw_tbl := qv_in7 (List.mem_of_getElem? (i := 15) rfl)
theorem qv_s191 : Cond.selects qx_e191.2.1.cls qx_e191.2.1 qx_e191.2.1 ∈ lw_tbl := List.mem_of_getElem? (i := 33) (by decide +kernel)
set_option maxRecDepth 100000 in
theorem qv_t192 : Cond.static qx_e192.2.1 ∈ lw_tbl := qv_in7 (List.mem_of_getElem? (i := 18) rfl)
set_option maxRecDepth 100000 in
theorem qv_i193 : Cond.instanceMethod qx_e193.2.1 ∈ lw_tbl := qv_in7 (List.mem_of_getElem? (i := 23) rfl)
set_option maxRecDepth 100000 in
theorem qv_s193 : Cond.selects qx_e193.2.1.cls qx_e193.2.1 qx_e193.2.1 ∈ lw_tbl := qv_in7 (List.mem_of_getElem? (i := 24) rfl)
set_option maxRecDepth 100000 in
theorem qv_i194 : Cond.instanceMethod qx_e194.2.1 ∈ lw_tbl := qv_in7 (List.mem_of_getElem? (i := 28) rfl)
set_option maxRecDepth 100000 in
theorem qv_s194 : Cond.selects qx_e194.2.1.cls qx_e194.2.1 qx_e194.2.1 ∈ lw_tbl := qv_in7 (List.mem_of_getElem? (i := 29) rfl)
set_option maxRecDepth 100000 in
theorem qv_i195 : Cond.instanceMethod qx_e195.2.1 ∈ lw_tbl := qv_in7 (List.mem_of_getElem? (i := 33) rfl)
theorem qv_s195 : Cond.selects qx_e195.2.1.cls qx_e195.2.1 qx_e195.2.1 ∈ lw_tbl := List.mem_of_getElem? (i := 34) (by decide +kernel)
set_option maxRecDepth 100000 in
theorem qv_i196 : Cond.instanceMethod qx_e196.2.1 ∈ lw_tbl := qv_in7 (List.mem_of_getElem? (i := 37) rfl)
theorem qv_s196 : Cond.selects qx_e196.2.1.cls qx_e196.2.1 qx_e196.2.1 ∈ lw_tbl := List.mem_of_getElem? (i := 35) (by decide +kernel)
set_option maxRecDepth 100000 in
theorem qv_i197 : Cond.instanceMethod qx_e197.2.1 ∈ lw_tbl := qv_in7 (List.mem_of_getElem? (i := 41) rfl)
theorem qv_s197 : Cond.selects qx_e197.2.1.cls qx_e197.2.1 qx_e197.2.1 ∈ lw_tbl := List.mem_of_getElem? (i := 36) (by decide +kernel)
set_option maxRecDepth 100000 in
theorem qv_i198 : Cond.instanceMethod qx_e198.2.1 ∈ lw_tbl := qv_in7 (List.mem_of_getElem? (i := 44) rfl)
set_option maxRecDepth 100000 in
theorem qv_s198 : Cond.selects qx_e198.2.1.cls qx_e198.2.1 qx_e198.2.1 ∈ lw_tbl := qv_in7 (List.mem_of_getElem? (i := 45) rfl)
set_option maxRecDepth 100000 in
theorem qv_i199 : Cond.instanceMethod qx_e199.2.1 ∈ lw_tbl := qv_in7 (List.mem_of_getElem? (i := 51) rfl)
set_option maxRecDepth 100000 in
theorem qv_s199 : Cond.selects qx_e199.2.1.cls qx_e199.2.1 qx_e199.2.1 ∈ lw_tbl := qv_in7 (List.mem_of_getElem? (i := 52) rfl)
set_option maxRecDepth 100000 in
theorem qv_i200 : Cond.instanceMethod qx_e200.2.1 ∈ lw_tbl := qv_in7 (List.mem_of_getElem? (i := 56) rfl)
theorem qv_s200 : Cond.selects qx_e200.2.1.cls qx_e200.2.1 qx_e200.2.1 ∈ lw_tbl := List.mem_of_getElem? (i := 37) (by decide +kernel)
set_option maxRecDepth 100000 in
theorem qv_i201 : Cond.instanceMethod qx_e201.2.1 ∈ lw_tbl := qv_in7 (List.mem_of_getElem? (i := 60) rfl)
theorem qv_s201 : Cond.selects qx_e201.2.1.cls qx_e201.2.1 qx_e201.2.1 ∈ lw_tbl := List.mem_of_getElem? (i := 38) (by decide +kernel)
set_option maxRecDepth 100000 in
theorem qv_i202 : Cond.instanceMethod qx_e202.2.1 ∈ lw_tbl := qv_in7 (List.mem_of_getElem? (i := 64) rfl)
theorem qv_s202 : Cond.selects qx_e202.2.1.cls qx_e202.2.1 qx_e202.2.1 ∈ lw_tbl := List.mem_of_getElem? (i := 39) (by decide +kernel)
set_option maxRecDepth 100000 in
theorem qv_i203 : Cond.instanceMethod qx_e203.2.1 ∈ lw_tbl := qv_in7 (List.mem_of_getElem? (i := 67) rfl)
set_option maxRecDepth 100000 in
theorem qv_s203 : Cond.selects qx_e203.2.1.cls qx_e203.2.1 qx_e203.2.1 ∈ lw_tbl := qv_in7 (List.mem_of_getElem? (i := 68) rfl)
set_option maxRecDepth 100000 in
theorem qv_i204 : Cond.instanceMethod qx_e204.2.1 ∈ lw_tbl := qv_in7 (List.mem_of_getElem? (i := 71) rfl)
set_option maxRecDepth 100000 in
theorem qv_s204 : Cond.selects qx_e204.2.1.cls qx_e204.2.1 qx_e204.2.1 ∈ lw_tbl := qv_in7 (List.mem_of_getElem? (i := 72) rfl)
set_option maxRecDepth 100000 in
theorem qv_i205 : Cond.instanceMethod qx_e205.2.1 ∈ lw_tbl := qv_in7 (List.mem_of_getElem? (i := 76) rfl)
theorem qv_s205 : Cond.selects qx_e205.2.1.cls qx_e205.2.1 qx_e205.2.1 ∈ lw_tbl := List.mem_of_getElem? (i := 40) (by decide +kernel)
set_option maxRecDepth 100000 in
theorem qv_i206 : Cond.instanceMethod qx_e206.2.1 ∈ lw_tbl := qv_in7 (List.mem_of_getElem? (i := 80) rfl)
theorem qv_s206 : Cond.selects qx_e206.2.1.cls qx_e206.2.1 qx_e206.2.1 ∈ lw_tbl := List.mem_of_getElem? (i := 41) (by decide +kernel)
set_option maxRecDepth 100000 in
theorem qv_i207 : Cond.instanceMethod qx_e207.2.1 ∈ lw_tbl := qv_in7 (List.mem_of_getElem? (i := 84) rfl)
theorem qv_s207 : Cond.selects qx_e207.2.1.cls qx_e207.2.1 qx_e207.2.1 ∈ lw_tbl := List.mem_of_getElem? (i := 42) (by decide +kernel)
set_option maxRecDepth 100000 in
theorem qv_i208 : Cond.instanceMethod qx_e208.2.1 ∈ lw_tbl := qv_in7 (List.mem_of_getElem? (i := 87) rfl)
set_option maxRecDepth 100000 in
theorem qv_s208 : Cond.selects qx_e208.2.1.cls qx_e208.2.1 qx_e208.2.1 ∈ lw_tbl := qv_in7 (List.mem_of_getElem? (i := 88) rfl)
set_option maxRecDepth 100000 in
theorem qv_i209 : Cond.instanceMethod qx_e209.2.1 ∈ lw_tbl := qv_in7 (List.mem_of_getElem? (i := 92) rfl)
theorem qv_s209 : Cond.selects qx_e209.2.1.cls qx_e209.2.1 qx_e209.2.1 ∈ lw_tbl := List.mem_of_getElem? (i := 43) (by decide +kernel)
set_option maxRecDepth 100000 in
theorem qv_i210 : Cond.instanceMethod qx_e210.2.1 ∈ lw_tbl := qv_in7 (List.mem_of_getElem? (i := 95) rfl)
set_option maxRecDepth 100000 in
theorem qv_s210 : Cond.selects qx_e210.2.1.cls qx_e210.2.1 qx_e210.2.1 ∈ lw_tbl := qv_in7 (List.mem_of_getElem? (i := 96) rfl)
set_option maxRecDepth 100000 in
theorem qv_i211 : Cond.instanceMethod qx_e211.2.1 ∈ lw_tbl := qv_in7 (List.mem_of_getElem? (i := 99) rfl)
set_option maxRecDepth 100000 in
theorem qv_s211 : Cond.selects qx_e211.2.1.cls qx_e211.2.1 qx_e211.2.1 ∈ lw_tbl := qv_in7 (List.mem_of_getElem? (i := 100) rfl)
set_option maxRecDepth 100000 in
theorem qv_i212 : Cond.instanceMethod qx_e212.2.1 ∈ lw_tbl := qv_in7 (List.mem_of_getElem? (i := 104) rfl)
set_option maxRecDepth 100000 in
theorem qv_s212 : Cond.selects qx_e212.2.1.cls qx_e212.2.1 qx_e212.2.1 ∈ lw_tbl := qv_in7 (List.mem_of_getElem? (i := 105) rfl)
set_option maxRecDepth 100000 in
theorem qv_i213 : Cond.instanceMethod qx_e213.2.1 ∈ lw_tbl := qv_in7 (List.mem_of_getElem? (i := 109) rfl)
theorem qv_s213 : Cond.selects qx_e213.2.1.cls qx_e213.2.1 qx_e213.2.1 ∈ lw_tbl := List.mem_of_getElem? (i := 44) (by decide +kernel)
set_option maxRecDepth 100000 in
theorem qv_i214 : Cond.instanceMethod qx_e214.2.1 ∈ lw_tbl := qv_in7 (List.mem_of_getElem? (i := 113) rfl)
theorem qv_s214 : Cond.selects qx_e214.2.1.cls qx_e214.2.1 qx_e214.2.1 ∈ lw_tbl := List.mem_of_getElem? (i := 45) (by decide +kernel)
set_option maxRecDepth 100000 in
theorem qv_i215 : Cond.instanceMethod qx_e215.2.1 ∈ lw_tbl := qv_in7 (List.mem_of_getElem? (i := 117) rfl)
theorem qv_s215 : Cond.selects qx_e215.2.1.cls qx_e215.2.1 qx_e215.2.1 ∈ lw_tbl := List.mem_of_getElem? (i := 46) (by decide +kernel)
set_option maxRecDepth 100000 in
theorem qv_i216 : Cond.instanceMethod qx_e216.2.1 ∈ lw_tbl := qv_in7 (List.mem_of_getElem? (i := 121) rfl)
theorem qv_s216 : Cond.selects qx_e216.2.1.cls qx_e216.2.1 qx_e216.2.1 ∈ lw_tbl := List.mem_of_getElem? (i := 47) (by decide +kernel)
set_option maxRecDepth 100000 in
theorem qv_i217 : Cond.instanceMethod qx_e217.2.1 ∈ lw_tbl := qv_in7 (List.mem_of_getElem? (i := 125) rfl)
theorem qv_s217 : Cond.selects qx_e217.2.1.cls qx_e217.2.1 qx_e217.2.1 ∈ lw_tbl := List.mem_of_getElem? (i := 48) (by decide +kernel)
set_option maxRecDepth 100000 in
theorem qv_i218 : Cond.instanceMethod qx_e218.2.1 ∈ lw_tbl := qv_in7 (List.mem_of_getElem? (i := 129) rfl)
theorem qv_s218 : Cond.selects qx_e218.2.1.cls qx_e218.2.1 qx_e218.2.1 ∈ lw_tbl := List.mem_of_getElem? (i := 49) (by decide +kernel)
set_option maxRecDepth 100000 in
theorem qv_i219 : Cond.instanceMethod qx_e219.2.1 ∈ lw_tbl := qv_in7 (List.mem_of_getElem? (i := 133) rfl)
theorem qv_s219 : Cond.selects qx_e219.2.1.cls qx_e219.2.1 qx_e219.2.1 ∈ lw_tbl := List.mem_of_getElem? (i := 50) (by decide +kernel)
set_option maxRecDepth 100000 in
theorem qv_i220 : Cond.instanceMethod qx_e220.2.1 ∈ lw_tbl := qv_in7 (List.mem_of_getElem? (i := 137) rfl)
theorem qv_s220 : Cond.selects qx_e220.2.1.cls qx_e220.2.1 qx_e220.2.1 ∈ lw_tbl := List.mem_of_getElem? (i := 51) (by decide +kernel)
set_option maxRecDepth 100000 in
theorem qv_i221 : Cond.instanceMethod qx_e221.2.1 ∈ lw_tbl := qv_in7 (List.mem_of_getElem? (i := 141) rfl)
theorem qv_s221 : Cond.selects qx_e221.2.1.cls qx_e221.2.1 qx_e221.2.1 ∈ lw_tbl := List.mem_of_getElem? (i := 52) (by decide +kernel)
set_option maxRecDepth 100000 in
theorem qv_i222 : Cond.instanceMethod qx_e222.2.1 ∈ lw_tbl := qv_in7 (List.mem_of_getElem? (i := 145) rfl)
theorem qv_s222 : Cond.selects qx_e222.2.1.cls qx_e222.2.1 qx_e222.2.1 ∈ lw_tbl := List.mem_of_getElem? (i := 53) (by decide +kernel)
set_option maxRecDepth 100000 in
theorem qv_t223 : Cond.static qx_e223.2.1 ∈ lw_tbl := qv_in7 (List.mem_of_getElem? (i := 148) rfl)
set_option maxRecDepth 100000 in
theorem qv_i224 : Cond.instanceMethod qx_e224.2.1 ∈ lw_tbl := qv_in7 (List.mem_of_getElem? (i := 151) rfl)
set_option maxRecDepth 100000 in
theorem qv_s224 : Cond.selects qx_e224.2.1.cls qx_e224.2.1 qx_e224.2.1 ∈ lw_tbl := qv_in7 (List.mem_of_getElem? (i := 152) rfl)
set_option maxRecDepth 100000 in
theorem qv_i225 : Cond.instanceMethod qx_e225.2.1 ∈ lw_tbl := qv_in7 (List.mem_of_getElem? (i := 156) rfl)
theorem qv_s225 : Cond.selects qx_e225.2.1.cls qx_e225.2.1 qx_e225.2.1 ∈ lw_tbl := List.mem_of_getElem? (i := 54) (by decide +kernel)
set_option maxRecDepth 100000 in
theorem qv_t226 : Cond.static qx_e226.2.1 ∈ lw_tbl := qv_in7 (List.mem_of_getElem? (i := 160) rfl)
set_option maxRecDepth 100000 in
theorem qv_i227 : Cond.instanceMethod qx_e227.2.1 ∈ lw_tbl := qv_in7 (List.mem_of_getElem? (i := 164) rfl)
theorem qv_s227 : Cond.selects qx_e227.2.1.cls qx_e227.2.1 qx_e227.2.1 ∈ lw_tbl := List.mem_of_getElem? (i := 55) (by decide +kernel)
set_option maxRecDepth 100000 in
theorem qv_i228 : Cond.instanceMethod qx_e228.2.1 ∈ lw_tbl := qv_in7 (List.mem_of_getElem? (i := 168) rfl)
theorem qv_s228 : Cond.selects qx_e228.2.1.cls qx_e228.2.1 qx_e228.2.1 ∈ lw_tbl := List.mem_of_getElem? (i := 56) (by decide +kernel)
set_option maxRecDepth 100000 in
theorem qv_i229 : Cond.instanceMethod qx_e229.2.1 ∈ lw_tbl := qv_in7 (List.mem_of_getElem? (i := 171) rfl)
set_option maxRecDepth 100000 in
theorem qv_s229 : Cond.selects qx_e229.2.1.cls qx_e229.2.1 qx_e229.2.1 ∈ lw_tbl := qv_in7 (List.mem_of_getElem? (i := 172) rfl)
set_option maxRecDepth 100000 in
theorem qv_t230 : Cond.static qx_e230.2.1 ∈ lw_tbl := qv_in7 (List.mem_of_getElem? (i := 175) rfl)
set_option maxRecDepth 100000 in
theorem qv_i231 : Cond.instanceMethod qx_e231.2.1 ∈ lw_tbl := qv_in7 (List.mem_of_getElem? (i := 179) rfl)
set_option maxRecDepth 100000 in
theorem qv_s231 : Cond.selects qx_e231.2.1.cls qx_e231.2.1 qx_e231.2.1 ∈ lw_tbl := qv_in7 (List.mem_of_getElem? (i := 180) rfl)
set_option maxRecDepth 100000 in
theorem qv_i232 : Cond.instanceMethod qx_e232.2.1 ∈ lw_tbl := qv_in7 (List.mem_of_getElem? (i := 184) rfl)
theorem qv_s232 : Cond.selects qx_e232.2.1.cls qx_e232.2.1 qx_e232.2.1 ∈ lw_tbl := List.mem_of_getElem? (i := 57) (by decide +kernel)
set_option maxRecDepth 100000 in
theorem qv_i233 : Cond.instanceMethod qx_e233.2.1 ∈ lw_tbl := qv_in7 (List.mem_of_getElem? (i := 187) rfl)
set_option maxRecDepth 100000 in
theorem qv_s233 : Cond.selects qx_e233.2.1.cls qx_e233.2.1 qx_e233.2.1 ∈ lw_tbl := qv_in7 (List.mem_of_getElem? (i := 188) rfl)
set_option maxRecDepth 100000 in
theorem qv_i234 : Cond.instanceMethod qx_e234.2.1 ∈ lw_tbl := qv_in7 (List.mem_of_getElem? (i := 192) rfl)
theorem qv_s234 : Cond.selects qx_e234.2.1.cls qx_e234.2.1 qx_e234.2.1 ∈ lw_tbl := List.mem_of_getElem? (i := 58) (by decide +kernel)
set_option maxRecDepth 100000 in
theorem qv_i235 : Cond.instanceMethod qx_e235.2.1 ∈ lw_tbl := qv_in7 (List.mem_of_getElem? (i := 196) rfl)
theorem qv_s235 : Cond.selects qx_e235.2.1.cls qx_e235.2.1 qx_e235.2.1 ∈ lw_tbl := List.mem_of_getElem? (i := 59) (by decide +kernel)
set_option maxRecDepth 100000 in
theorem qv_t236 : Cond.static qx_e236.2.1 ∈ lw_tbl := qv_in7 (List.mem_of_getElem? (i := 199) rfl)
set_option maxRecDepth 100000 in
theorem qv_i237 : Cond.instanceMethod qx_e237.2.1 ∈ lw_tbl := qv_in7 (List.mem_of_getElem? (i := 204) rfl)
theorem qv_s237 : Cond.selects qx_e237.2.1.cls qx_e237.2.1 qx_e237.2.1 ∈ lw_tbl := List.mem_of_getElem? (i := 60) (by decide +kernel)
set_option maxRecDepth 100000 in
theorem qv_i238 : Cond.instanceMethod qx_e238.2.1 ∈ lw_tbl := qv_in7 (List.mem_of_getElem? (i := 207) rfl)
set_option maxRecDepth 100000 in
theorem qv_s238 : Cond.selects qx_e238.2.1.cls qx_e238.2.1 qx_e238.2.1 ∈ lw_tbl := qv_in7 (List.mem_of_getElem? (i := 208) rfl)
set_option maxRecDepth 100000 in
theorem qv_i239 : Cond.instanceMethod qx_e239.2.1 ∈ lw_tbl := qv_in7 (List.mem_of_getElem? (i := 211) rfl)
set_option maxRecDepth 100000 in
theorem qv_s239 : Cond.selects qx_e239.2.1.cls qx_e239.2.1 qx_e239.2.1 ∈ lw_tbl := qv_in7 (List.mem_of_getElem? (i := 212) rfl)
set_option maxRecDepth 100000 in
theorem qv_i240 : Cond.instanceMethod qx_e240.2.1 ∈ lw_tbl := qv_in7 (List.mem_of_getElem? (i := 216) rfl)
theorem qv_s240 : Cond.selects qx_e240.2.1.cls qx_e240.2.1 qx_e240.2.1 ∈ lw_tbl := List.mem_of_getElem? (i := 61) (by decide +kernel)
set_option maxRecDepth 100000 in
theorem qv_i241 : Cond.instanceMethod qx_e241.2.1 ∈ lw_tbl := qv_in7 (List.mem_of_getElem? (i := 219) rfl)
set_option maxRecDepth 100000 in
theorem qv_s241 : Cond.selects qx_e241.2.1.cls qx_e241.2.1 qx_e241.2.1 ∈ lw_tbl := qv_in7 (List.mem_of_getElem? (i := 220) rfl)
set_option maxRecDepth 100000 in
theorem qv_i242 : Cond.instanceMethod qx_e242.2.1 ∈ lw_tbl := qv_in7 (List.mem_of_getElem? (i := 224) rfl)
set_option maxRecDepth 100000 in
theorem qv_s242 : Cond.selects qx_e242.2.1.cls qx_e242.2.1 qx_e242.2.1 ∈ lw_tbl := qv_in7 (List.mem_of_getElem? (i := 225) rfl)
set_option maxRecDepth 100000 in
theorem qv_i243 : Cond.instanceMethod qx_e243.2.1 ∈ lw_tbl := qv_in7 (List.mem_of_getElem? (i := 231) rfl)
theorem qv_s243 : Cond.selects qx_e243.2.1.cls qx_e243.2.1 qx_e243.2.1 ∈ lw_tbl := List.mem_of_getElem? (i := 62) (by decide +kernel)
set_option maxRecDepth 100000 in
theorem qv_i244 : Cond.instanceMethod qx_e244.2.1 ∈ lw_tbl := qv_in7 (List.mem_of_getElem? (i := 235) rfl)
theorem qv_s244 : Cond.selects qx_e244.2.1.cls qx_e244.2.1 qx_e244.2.1 ∈ lw_tbl := List.mem_of_getElem? (i := 63) (by decide +kernel)
set_option maxRecDepth 100000 in
theorem qv_i245 : Cond.instanceMethod qx_e245.2.1 ∈ lw_tbl := qv_in7 (List.mem_of_getElem? (i := 238) rfl)
set_option maxRecDepth 100000 in
theorem qv_s245 : Cond.selects qx_e245.2.1.cls qx_e245.2.1 qx_e245.2.1 ∈ lw_tbl := qv_in7 (List.mem_of_getElem? (i := 239) rfl)
set_option maxRecDepth 100000 in
theorem qv_i246 : Cond.instanceMethod qx_e246.2.1 ∈ lw_tbl := qv_in8 (List.mem_of_getElem? (i := 3) rfl)
theorem qv_s246 : Cond.selects qx_e246.2.1.cls qx_e246.2.1 qx_e246.2.1 ∈ lw_tbl := List.mem_of_getElem? (i := 64) (by decide +kernel)
set_option maxRecDepth 100000 in
theorem qv_i247 : Cond.instanceMethod qx_e247.2.1 ∈ lw_tbl := qv_in8 (List.mem_of_getElem? (i := 7) rfl)
theorem qv_s247 : Cond.selects qx_e247.2.1.cls qx_e247.2.1 qx_e247.2.1 ∈ lw_tbl := List.mem_of_getElem? (i := 65) (by decide +kernel)
set_option maxRecDepth 100000 in
theorem qv_i248 : Cond.instanceMethod qx_e248.2.1 ∈ lw_tbl := qv_in8 (List.mem_of_getElem? (i := 11) rfl)
theorem qv_s248 : Cond.selects qx_e248.2.1.cls qx_e248.2.1 qx_e248.2.1 ∈ lw_tbl := List.mem_of_getElem? (i := 66) (by decide +kernel)
set_option maxRecDepth 100000 in
theorem qv_i249 : Cond.instanceMethod qx_e249.2.1 ∈ lw_tbl := qv_in8 (List.mem_of_getElem? (i := 15) rfl)
theorem qv_s249 : Cond.selects qx_e249.2.1.cls qx_e249.2.1 qx_e249.2.1 ∈ lw_tbl := List.mem_of_getElem? (i := 67) (by decide +kernel)
set_option maxRecDepth 100000 in
theorem qv_i250 : Cond.instanceMethod qx_e250.2.1 ∈ lw_tbl := qv_in8 (List.mem_of_getElem? (i := 18) rfl)
set_option maxRecDepth 100000 in
theorem qv_s250 : Cond.selects qx_e250.2.1.cls qx_e250.2.1 qx_e250.2.1 ∈ lw_tbl := qv_in8 (List.mem_of_getElem? (i := 19) rfl)
set_option maxRecDepth 100000 in
theorem qv_i251 : Cond.instanceMethod qx_e251.2.1 ∈ lw_tbl := qv_in8 (List.mem_of_getElem? (i := 22) rfl)
set_option maxRecDepth 100000 in
theorem qv_s251 : Cond.selects qx_e251.2.1.cls qx_e251.2.1 qx_e251.2.1 ∈ lw_tbl := qv_in8 (List.mem_of_getElem? (i := 23) rfl)
set_option maxRecDepth 100000 in
theorem qv_i252 : Cond.instanceMethod qx_e252.2.1 ∈ lw_tbl := qv_in8 (List.mem_of_getElem? (i := 26) rfl)
set_option maxRecDepth 100000 in
theorem qv_s252 : Cond.selects qx_e252.2.1.cls qx_e252.2.1 qx_e252.2.1 ∈ lw_tbl := qv_in8 (List.mem_of_getElem? (i := 27) rfl)
set_option maxRecDepth 100000 in
theorem qv_t253 : Cond.static qx_e253.2.1 ∈ lw_tbl := qv_in8 (List.mem_of_getElem? (i := 30) rfl)
set_option maxRecDepth 100000 in
theorem qv_i254 : Cond.instanceMethod qx_e254.2.1 ∈ lw_tbl := qv_in8 (List.mem_of_getElem? (i := 33) rfl)
set_option maxRecDepth 100000 in
theorem qv_s254 : Cond.selects qx_e254.2.1.cls qx_e254.2.1 qx_e254.2.1 ∈ lw_tbl := qv_in8 (List.mem_of_getElem? (i := 34) rfl)
set_option maxRecDepth 100000 in
theorem qv_i255 : Cond.instanceMethod qx_e255.2.1 ∈ lw_tbl := qv_in8 (List.mem_of_getElem? (i := 37) rfl)
set_option maxRecDepth 100000 in
theorem qv_s255 : Cond.selects qx_e255.2.1.cls qx_e255.2.1 qx_e255.2.1 ∈ lw_tbl := qv_in8 (List.mem_of_getElem? (i := 38) rfl)
set_option maxRecDepth 100000 in
theorem qv_i256 : Cond.instanceMethod qx_e256.2.1 ∈ lw_tbl := qv_in8 (List.mem_of_getElem? (i := 42) rfl)
theorem qv_s256 : Cond.selects qx_e256.2.1.cls qx_e256.2.1 qx_e256.2.1 ∈ lw_tbl := List.mem_of_getElem? (i := 68) (by decide +kernel)
set_option maxRecDepth 100000 in
theorem qv_i257 : Cond.instanceMethod qx_e257.2.1 ∈ lw_tbl := qv_in8 (List.mem_of_getElem? (i := 46) rfl)
theorem qv_s257 : Cond.selects qx_e257.2.1.cls qx_e257.2.1 qx_e257.2.1 ∈ lw_tbl := List.mem_of_getElem? (i := 69) (by decide +kernel)
set_option maxRecDepth 100000 in
theorem qv_i258 : Cond.instanceMethod qx_e258.2.1 ∈ lw_tbl := qv_in8 (List.mem_of_getElem? (i := 50) rfl)
theorem qv_s258 : Cond.selects qx_e258.2.1.cls qx_e258.2.1 qx_e258.2.1 ∈ lw_tbl := List.mem_of_getElem? (i := 70) (by decide +kernel)
set_option maxRecDepth 100000 in
theorem qv_i259 : Cond.instanceMethod qx_e259.2.1 ∈ lw_tbl := qv_in8 (List.mem_of_getElem? (i := 54) rfl)
theorem qv_s259 : Cond.selects qx_e259.2.1.cls qx_e259.2.1 qx_e259.2.1 ∈ lw_tbl := List.mem_of_getElem? (i := 71) (by decide +kernel)
set_option maxRecDepth 100000 in
theorem qv_i260 : Cond.instanceMethod qx_e260.2.1 ∈ lw_tbl := qv_in8 (List.mem_of_getElem? (i := 58) rfl)
theorem qv_s260 : Cond.selects qx_e260.2.1.cls qx_e260.2.1 qx_e260.2.1 ∈ lw_tbl := List.mem_of_getElem? (i := 72) (by decide +kernel)
set_option maxRecDepth 100000 in
theorem qv_i261 : Cond.instanceMethod qx_e261.2.1 ∈ lw_tbl := qv_in8 (List.mem_of_getElem? (i := 61) rfl)
set_option maxRecDepth 100000 in
theorem qv_s261 : Cond.selects qx_e261.2.1.cls qx_e261.2.1 qx_e261.2.1 ∈ lw_tbl := qv_in8 (List.mem_of_getElem? (i := 62) rfl)
set_option maxRecDepth 100000 in
theorem qv_i262 : Cond.instanceMethod qx_e262.2.1 ∈ lw_tbl := qv_in8 (List.mem_of_getElem? (i := 65) rfl)
set_option maxRecDepth 100000 in
theorem qv_s262 : Cond.selects qx_e262.2.1.cls qx_e262.2.1 qx_e262.2.1 ∈ lw_tbl := qv_in8 (List.mem_of_getElem? (i := 66) rfl)
set_option maxRecDepth 100000 in
theorem qv_i263 : Cond.instanceMethod qx_e263.2.1 ∈ lw_tbl := qv_in8 (List.mem_of_getElem? (i := 69) rfl)
set_option maxRecDepth 100000 in
theorem qv_s263 : Cond.selects qx_e263.2.1.cls qx_e263.2.1 qx_e263.2.1 ∈ lw_tbl := qv_in8 (List.mem_of_getElem? (i := 70) rfl)
set_option maxRecDepth 100000 in
theorem qv_i264 : Cond.instanceMethod qx_e264.2.1 ∈ lw_tbl := qv_in8 (List.mem_of_getElem? (i := 73) rfl)
set_option maxRecDepth 100000 in
theorem qv_s264 : Cond.selects qx_e264.2.1.cls qx_e264.2.1 qx_e264.2.1 ∈ lw_tbl := qv_in8 (List.mem_of_getElem? (i := 74) rfl)
set_option maxRecDepth 100000 in
theorem qv_i265 : Cond.instanceMethod qx_e265.2.1 ∈ lw_tbl := qv_in8 (List.mem_of_getElem? (i := 78) rfl)
theorem qv_s265 : Cond.selects qx_e265.2.1.cls qx_e265.2.1 qx_e265.2.1 ∈ lw_tbl := List.mem_of_getElem? (i := 73) (by decide +kernel)
set_option maxRecDepth 100000 in
theorem qv_t266 : Cond.static qx_e266.2.1 ∈ lw_tbl := qv_in8 (List.mem_of_getElem? (i := 81) rfl)
set_option maxRecDepth 100000 in
theorem qv_i267 : Cond.instanceMethod qx_e267.2.1 ∈ lw_tbl := qv_in8 (List.mem_of_getElem? (i := 84) rfl)
set_option maxRecDepth 100000 in
theorem qv_s267 : Cond.selects qx_e267.2.1.cls qx_e267.2.1 qx_e267.2.1 ∈ lw_tbl := qv_in8 (List.mem_of_getElem? (i := 85) rfl)
set_option maxRecDepth 100000 in
theorem qv_i268 : Cond.instanceMethod qx_e268.2.1 ∈ lw_tbl := qv_in8 (List.mem_of_getElem? (i := 89) rfl)
set_option maxRecDepth 100000 in
theorem qv_s268 : Cond.selects qx_e268.2.1.cls qx_e268.2.1 qx_e268.2.1 ∈ lw_tbl := qv_in8 (List.mem_of_getElem? (i := 90) rfl)
set_option maxRecDepth 100000 in
theorem qv_i269 : Cond.instanceMethod qx_e269.2.1 ∈ lw_tbl := qv_in8 (List.mem_of_getElem? (i := 93) rfl)
set_option maxRecDepth 100000 in
theorem qv_s269 : Cond.selects qx_e269.2.1.cls qx_e269.2.1 qx_e269.2.1 ∈ lw_tbl := qv_in8 (List.mem_of_getElem? (i := 94) rfl)
set_option maxRecDepth 100000 in
theorem qv_t270 : Cond.static qx_e270.2.1 ∈ lw_tbl := qv_in8 (List.mem_of_getElem? (i := 98) rfl)
set_option maxRecDepth 100000 in
theorem qv_i271 : Cond.instanceMethod qx_e271.2.1 ∈ lw_tbl := qv_in8 (List.mem_of_getElem? (i := 101) rfl)
set_option maxRecDepth 100000 in
theorem qv_s271 : Cond.selects qx_e271.2.1.cls qx_e271.2.1 qx_e271.2.1 ∈ lw_tbl := qv_in8 (List.mem_of_getElem? (i := 102) rfl)
set_option maxRecDepth 100000 in
theorem qv_nc0 : Cond.initialized "OneRoof" ∈ lw_tbl := qv_in1 (List.mem_of_getElem? (i := 1) rfl)
theorem qv_ac0 : "OneRoof" ≠ "java/lang/invoke/MethodHandle" ∧ "OneRoof" ≠ "java/lang/invoke/VarHandle" := ⟨by decide +kernel, by decide +kernel⟩
theorem qv_ad0 : (parseMethodDescriptor "()V").map (fun d => d.parameters.length) = some 0 := by decide +kernel
theorem qv_n1 : Cond.initialized qx_e1.2.1.cls ∈ lw_tbl := qv_nc0
theorem qv_a1 : qs_nargs qx_e1.2.1 0 := ⟨qv_ac0.1, qv_ac0.2, qv_ad0⟩
set_option maxRecDepth 100000 in
theorem qv_nc1 : Cond.initialized "OneRoof$Folk" ∈ lw_tbl := qv_in1 (List.mem_of_getElem? (i := 2) rfl)
theorem qv_ac1 : "OneRoof$Folk" ≠ "java/lang/invoke/MethodHandle" ∧ "OneRoof$Folk" ≠ "java/lang/invoke/VarHandle" := ⟨by decide +kernel, by decide +kernel⟩
theorem qv_n2 : Cond.initialized qx_e2.2.1.cls ∈ lw_tbl := qv_nc1
theorem qv_a2 : qs_nargs qx_e2.2.1 0 := ⟨qv_ac1.1, qv_ac1.2, qv_ad0⟩
set_option maxRecDepth 100000 in
theorem qv_nc2 : Cond.initialized "OneRoof$Kinship" ∈ lw_tbl := qv_in1 (List.mem_of_getElem? (i := 3) rfl)
theorem qv_ac2 : "OneRoof$Kinship" ≠ "java/lang/invoke/MethodHandle" ∧ "OneRoof$Kinship" ≠ "java/lang/invoke/VarHandle" := ⟨by decide +kernel, by decide +kernel⟩
theorem qv_n3 : Cond.initialized qx_e3.2.1.cls ∈ lw_tbl := qv_nc2
theorem qv_a3 : qs_nargs qx_e3.2.1 0 := ⟨qv_ac2.1, qv_ac2.2, qv_ad0⟩
set_option maxRecDepth 100000 in
theorem qv_nc3 : Cond.initialized "java/util/Arrays" ∈ lw_tbl := qv_in1 (List.mem_of_getElem? (i := 4) rfl)
theorem qv_ac3 : "java/util/Arrays" ≠ "java/lang/invoke/MethodHandle" ∧ "java/util/Arrays" ≠ "java/lang/invoke/VarHandle" := ⟨by decide +kernel, by decide +kernel⟩
theorem qv_ad1 : (parseMethodDescriptor "([II)V").map (fun d => d.parameters.length) = some 2 := by decide +kernel
theorem qv_n4 : Cond.initialized qx_e4.2.1.cls ∈ lw_tbl := qv_nc3
theorem qv_a4 : qs_nargs qx_e4.2.1 2 := ⟨qv_ac3.1, qv_ac3.2, qv_ad1⟩
set_option maxRecDepth 100000 in
theorem qv_nc4 : Cond.initialized "OneRoof$Feuds" ∈ lw_tbl := qv_in1 (List.mem_of_getElem? (i := 5) rfl)
theorem qv_ac4 : "OneRoof$Feuds" ≠ "java/lang/invoke/MethodHandle" ∧ "OneRoof$Feuds" ≠ "java/lang/invoke/VarHandle" := ⟨by decide +kernel, by decide +kernel⟩
theorem qv_n5 : Cond.initialized qx_e5.2.1.cls ∈ lw_tbl := qv_nc4
theorem qv_a5 : qs_nargs qx_e5.2.1 0 := ⟨qv_ac4.1, qv_ac4.2, qv_ad0⟩
set_option maxRecDepth 100000 in
theorem qv_nc5 : Cond.initialized "OneRoof$Peaces" ∈ lw_tbl := qv_in1 (List.mem_of_getElem? (i := 6) rfl)
theorem qv_ac5 : "OneRoof$Peaces" ≠ "java/lang/invoke/MethodHandle" ∧ "OneRoof$Peaces" ≠ "java/lang/invoke/VarHandle" := ⟨by decide +kernel, by decide +kernel⟩
theorem qv_n6 : Cond.initialized qx_e6.2.1.cls ∈ lw_tbl := qv_nc5
theorem qv_a6 : qs_nargs qx_e6.2.1 0 := ⟨qv_ac5.1, qv_ac5.2, qv_ad0⟩
set_option maxRecDepth 100000 in
theorem qv_nc6 : Cond.initialized "OneRoof$Acts" ∈ lw_tbl := qv_in1 (List.mem_of_getElem? (i := 7) rfl)
theorem qv_ac6 : "OneRoof$Acts" ≠ "java/lang/invoke/MethodHandle" ∧ "OneRoof$Acts" ≠ "java/lang/invoke/VarHandle" := ⟨by decide +kernel, by decide +kernel⟩
theorem qv_n7 : Cond.initialized qx_e7.2.1.cls ∈ lw_tbl := qv_nc6
theorem qv_a7 : qs_nargs qx_e7.2.1 0 := ⟨qv_ac6.1, qv_ac6.2, qv_ad0⟩
set_option maxRecDepth 100000 in
theorem qv_nc7 : Cond.initialized "OneRoof$Pegs" ∈ lw_tbl := qv_in1 (List.mem_of_getElem? (i := 8) rfl)
theorem qv_ac7 : "OneRoof$Pegs" ≠ "java/lang/invoke/MethodHandle" ∧ "OneRoof$Pegs" ≠ "java/lang/invoke/VarHandle" := ⟨by decide +kernel, by decide +kernel⟩
theorem qv_n8 : Cond.initialized qx_e8.2.1.cls ∈ lw_tbl := qv_nc7
theorem qv_a8 : qs_nargs qx_e8.2.1 0 := ⟨qv_ac7.1, qv_ac7.2, qv_ad0⟩
set_option maxRecDepth 100000 in
theorem qv_nc8 : Cond.initialized "OneRoof$Custom" ∈ lw_tbl := qv_in1 (List.mem_of_getElem? (i := 9) rfl)
theorem qv_ac8 : "OneRoof$Custom" ≠ "java/lang/invoke/MethodHandle" ∧ "OneRoof$Custom" ≠ "java/lang/invoke/VarHandle" := ⟨by decide +kernel, by decide +kernel⟩
theorem qv_ad2 : (parseMethodDescriptor "(Ljava/lang/String;)V").map (fun d => d.parameters.length) = some 1 := by decide +kernel
theorem qv_n9 : Cond.initialized qx_e9.2.1.cls ∈ lw_tbl := qv_nc8
theorem qv_a9 : qs_nargs qx_e9.2.1 1 := ⟨qv_ac8.1, qv_ac8.2, qv_ad2⟩
set_option maxRecDepth 100000 in
theorem qv_nc9 : Cond.initialized "java/lang/String" ∈ lw_tbl := qv_in1 (List.mem_of_getElem? (i := 10) rfl)
theorem qv_ac9 : "java/lang/String" ≠ "java/lang/invoke/MethodHandle" ∧ "java/lang/String" ≠ "java/lang/invoke/VarHandle" := ⟨by decide +kernel, by decide +kernel⟩
theorem qv_ad3 : (parseMethodDescriptor "()I").map (fun d => d.parameters.length) = some 0 := by decide +kernel
theorem qv_n10 : Cond.initialized qx_e10.2.1.cls ∈ lw_tbl := qv_nc9
theorem qv_a10 : qs_nargs qx_e10.2.1 0 := ⟨qv_ac9.1, qv_ac9.2, qv_ad3⟩
theorem qv_ad4 : (parseMethodDescriptor "()B").map (fun d => d.parameters.length) = some 0 := by decide +kernel
theorem qv_n11 : Cond.initialized qx_e11.2.1.cls ∈ lw_tbl := qv_nc9
theorem qv_a11 : qs_nargs qx_e11.2.1 0 := ⟨qv_ac9.1, qv_ac9.2, qv_ad4⟩
set_option maxRecDepth 100000 in
theorem qv_nc10 : Cond.initialized "java/lang/Math" ∈ lw_tbl := qv_in1 (List.mem_of_getElem? (i := 11) rfl)
theorem qv_ac10 : "java/lang/Math" ≠ "java/lang/invoke/MethodHandle" ∧ "java/lang/Math" ≠ "java/lang/invoke/VarHandle" := ⟨by decide +kernel, by decide +kernel⟩
theorem qv_ad5 : (parseMethodDescriptor "(II)I").map (fun d => d.parameters.length) = some 2 := by decide +kernel
theorem qv_n12 : Cond.initialized qx_e12.2.1.cls ∈ lw_tbl := qv_nc10
theorem qv_a12 : qs_nargs qx_e12.2.1 2 := ⟨qv_ac10.1, qv_ac10.2, qv_ad5⟩
theorem qv_ad6 : (parseMethodDescriptor "(I)C").map (fun d => d.parameters.length) = some 1 := by decide +kernel
theorem qv_n13 : Cond.initialized qx_e13.2.1.cls ∈ lw_tbl := qv_nc9
theorem qv_a13 : qs_nargs qx_e13.2.1 1 := ⟨qv_ac9.1, qv_ac9.2, qv_ad6⟩
theorem qv_ad7 : (parseMethodDescriptor "()Z").map (fun d => d.parameters.length) = some 0 := by decide +kernel
theorem qv_n14 : Cond.initialized qx_e14.2.1.cls ∈ lw_tbl := qv_nc9
theorem qv_a14 : qs_nargs qx_e14.2.1 0 := ⟨qv_ac9.1, qv_ac9.2, qv_ad7⟩
set_option maxRecDepth 100000 in
theorem qv_nc11 : Cond.initialized "java/lang/StringLatin1" ∈ lw_tbl := qv_in1 (List.mem_of_getElem? (i := 12) rfl)
theorem qv_ac11 : "java/lang/StringLatin1" ≠ "java/lang/invoke/MethodHandle" ∧ "java/lang/StringLatin1" ≠ "java/lang/invoke/VarHandle" := ⟨by decide +kernel, by decide +kernel⟩
theorem qv_ad8 : (parseMethodDescriptor "([BI)C").map (fun d => d.parameters.length) = some 2 := by decide +kernel
theorem qv_n15 : Cond.initialized qx_e15.2.1.cls ∈ lw_tbl := qv_nc11
theorem qv_a15 : qs_nargs qx_e15.2.1 2 := ⟨qv_ac11.1, qv_ac11.2, qv_ad8⟩
theorem qv_ad9 : (parseMethodDescriptor "(II)V").map (fun d => d.parameters.length) = some 2 := by decide +kernel
theorem qv_n16 : Cond.initialized qx_e16.2.1.cls ∈ lw_tbl := qv_nc9
theorem qv_a16 : qs_nargs qx_e16.2.1 2 := ⟨qv_ac9.1, qv_ac9.2, qv_ad9⟩
set_option maxRecDepth 100000 in
theorem qv_nc12 : Cond.initialized "jdk/internal/util/Preconditions" ∈ lw_tbl := qv_in1 (List.mem_of_getElem? (i := 13) rfl)
theorem qv_ac12 : "jdk/internal/util/Preconditions" ≠ "java/lang/invoke/MethodHandle" ∧ "jdk/internal/util/Preconditions" ≠ "java/lang/invoke/VarHandle" := ⟨by decide +kernel, by decide +kernel⟩
theorem qv_ad10 : (parseMethodDescriptor "(IILjava/util/function/BiFunction;)I").map (fun d => d.parameters.length) = some 3 := by decide +kernel
theorem qv_n17 : Cond.initialized qx_e17.2.1.cls ∈ lw_tbl := qv_nc12
theorem qv_a17 : qs_nargs qx_e17.2.1 3 := ⟨qv_ac12.1, qv_ac12.2, qv_ad10⟩
theorem qv_n18 : Cond.initialized qx_e18.2.1.cls ∈ lw_tbl := qv_nc8
theorem qv_a18 : qs_nargs qx_e18.2.1 0 := ⟨qv_ac8.1, qv_ac8.2, qv_ad3⟩
theorem qv_n19 : Cond.initialized qx_e19.2.1.cls ∈ lw_tbl := qv_nc8
theorem qv_a19 : qs_nargs qx_e19.2.1 0 := ⟨qv_ac8.1, qv_ac8.2, qv_ad0⟩
theorem qv_n20 : Cond.initialized qx_e20.2.1.cls ∈ lw_tbl := qv_nc8
theorem qv_a20 : qs_nargs qx_e20.2.1 2 := ⟨qv_ac8.1, qv_ac8.2, qv_ad9⟩
theorem qv_ad11 : (parseMethodDescriptor "(I)V").map (fun d => d.parameters.length) = some 1 := by decide +kernel
theorem qv_n21 : Cond.initialized qx_e21.2.1.cls ∈ lw_tbl := qv_nc8
theorem qv_a21 : qs_nargs qx_e21.2.1 1 := ⟨qv_ac8.1, qv_ac8.2, qv_ad11⟩
theorem qv_n22 : Cond.initialized qx_e22.2.1.cls ∈ lw_tbl := qv_nc8
theorem qv_a22 : qs_nargs qx_e22.2.1 0 := ⟨qv_ac8.1, qv_ac8.2, qv_ad3⟩
theorem qv_ad12 : (parseMethodDescriptor "(I)Z").map (fun d => d.parameters.length) = some 1 := by decide +kernel
theorem qv_n23 : Cond.initialized qx_e23.2.1.cls ∈ lw_tbl := qv_nc8
theorem qv_a23 : qs_nargs qx_e23.2.1 1 := ⟨qv_ac8.1, qv_ac8.2, qv_ad12⟩
theorem qv_n24 : Cond.initialized qx_e24.2.1.cls ∈ lw_tbl := qv_nc8
theorem qv_a24 : qs_nargs qx_e24.2.1 0 := ⟨qv_ac8.1, qv_ac8.2, qv_ad0⟩
theorem qv_n25 : Cond.initialized qx_e25.2.1.cls ∈ lw_tbl := qv_nc8
theorem qv_a25 : qs_nargs qx_e25.2.1 2 := ⟨qv_ac8.1, qv_ac8.2, qv_ad5⟩
theorem qv_ad13 : (parseMethodDescriptor "(I)I").map (fun d => d.parameters.length) = some 1 := by decide +kernel
theorem qv_n26 : Cond.initialized qx_e26.2.1.cls ∈ lw_tbl := qv_nc9
theorem qv_a26 : qs_nargs qx_e26.2.1 1 := ⟨qv_ac9.1, qv_ac9.2, qv_ad13⟩
theorem qv_n27 : Cond.initialized qx_e27.2.1.cls ∈ lw_tbl := qv_nc9
theorem qv_a27 : qs_nargs qx_e27.2.1 2 := ⟨qv_ac9.1, qv_ac9.2, qv_ad5⟩
theorem qv_ad14 : (parseMethodDescriptor "([BIII)I").map (fun d => d.parameters.length) = some 4 := by decide +kernel
theorem qv_n28 : Cond.initialized qx_e28.2.1.cls ∈ lw_tbl := qv_nc11
theorem qv_a28 : qs_nargs qx_e28.2.1 4 := ⟨qv_ac11.1, qv_ac11.2, qv_ad14⟩
theorem qv_n29 : Cond.initialized qx_e29.2.1.cls ∈ lw_tbl := qv_nc11
theorem qv_a29 : qs_nargs qx_e29.2.1 1 := ⟨qv_ac11.1, qv_ac11.2, qv_ad12⟩
theorem qv_n30 : Cond.initialized qx_e30.2.1.cls ∈ lw_tbl := qv_nc10
theorem qv_a30 : qs_nargs qx_e30.2.1 2 := ⟨qv_ac10.1, qv_ac10.2, qv_ad5⟩
theorem qv_n31 : Cond.initialized qx_e31.2.1.cls ∈ lw_tbl := qv_nc11
theorem qv_a31 : qs_nargs qx_e31.2.1 4 := ⟨qv_ac11.1, qv_ac11.2, qv_ad14⟩
theorem qv_n32 : Cond.initialized qx_e32.2.1.cls ∈ lw_tbl := qv_nc8
theorem qv_a32 : qs_nargs qx_e32.2.1 1 := ⟨qv_ac8.1, qv_ac8.2, qv_ad11⟩
theorem qv_n33 : Cond.initialized qx_e33.2.1.cls ∈ lw_tbl := qv_nc8
theorem qv_a33 : qs_nargs qx_e33.2.1 1 := ⟨qv_ac8.1, qv_ac8.2, qv_ad13⟩
set_option maxRecDepth 100000 in
theorem qv_nc13 : Cond.initialized "OneRoof$Moment" ∈ lw_tbl := qv_in1 (List.mem_of_getElem? (i := 16) rfl)
theorem qv_ac13 : "OneRoof$Moment" ≠ "java/lang/invoke/MethodHandle" ∧ "OneRoof$Moment" ≠ "java/lang/invoke/VarHandle" := ⟨by decide +kernel, by decide +kernel⟩
theorem qv_ad15 : (parseMethodDescriptor "(LOneRoof$Folk;LOneRoof$Kinship;LOneRoof$Feuds;LOneRoof$Peaces;[LOneRoof$Custom;)V").map (fun d => d.parameters.length) = some 5 := by decide +kernel
theorem qv_n34 : Cond.initialized qx_e34.2.1.cls ∈ lw_tbl := qv_nc13
theorem qv_a34 : qs_nargs qx_e34.2.1 5 := ⟨qv_ac13.1, qv_ac13.2, qv_ad15⟩
set_option maxRecDepth 100000 in
theorem qv_nc14 : Cond.initialized "OneRoof$Guests" ∈ lw_tbl := qv_in1 (List.mem_of_getElem? (i := 17) rfl)
theorem qv_ac14 : "OneRoof$Guests" ≠ "java/lang/invoke/MethodHandle" ∧ "OneRoof$Guests" ≠ "java/lang/invoke/VarHandle" := ⟨by decide +kernel, by decide +kernel⟩
theorem qv_ad16 : (parseMethodDescriptor "(LOneRoof$Moment;)V").map (fun d => d.parameters.length) = some 1 := by decide +kernel
theorem qv_n35 : Cond.initialized qx_e35.2.1.cls ∈ lw_tbl := qv_nc14
theorem qv_a35 : qs_nargs qx_e35.2.1 1 := ⟨qv_ac14.1, qv_ac14.2, qv_ad16⟩
set_option maxRecDepth 100000 in
theorem qv_nc15 : Cond.initialized "OneRoof$Telling" ∈ lw_tbl := qv_in1 (List.mem_of_getElem? (i := 18) rfl)
theorem qv_ac15 : "OneRoof$Telling" ≠ "java/lang/invoke/MethodHandle" ∧ "OneRoof$Telling" ≠ "java/lang/invoke/VarHandle" := ⟨by decide +kernel, by decide +kernel⟩
theorem qv_n36 : Cond.initialized qx_e36.2.1.cls ∈ lw_tbl := qv_nc15
theorem qv_a36 : qs_nargs qx_e36.2.1 1 := ⟨qv_ac15.1, qv_ac15.2, qv_ad16⟩
set_option maxRecDepth 100000 in
theorem qv_nc16 : Cond.initialized "OneRoof$History" ∈ lw_tbl := qv_in1 (List.mem_of_getElem? (i := 19) rfl)
theorem qv_ac16 : "OneRoof$History" ≠ "java/lang/invoke/MethodHandle" ∧ "OneRoof$History" ≠ "java/lang/invoke/VarHandle" := ⟨by decide +kernel, by decide +kernel⟩
theorem qv_ad17 : (parseMethodDescriptor "(LOneRoof$Folk;LOneRoof$Feuds;LOneRoof$Peaces;)V").map (fun d => d.parameters.length) = some 3 := by decide +kernel
theorem qv_n37 : Cond.initialized qx_e37.2.1.cls ∈ lw_tbl := qv_nc16
theorem qv_a37 : qs_nargs qx_e37.2.1 3 := ⟨qv_ac16.1, qv_ac16.2, qv_ad17⟩
theorem qv_ad18 : (parseMethodDescriptor "(III)I").map (fun d => d.parameters.length) = some 3 := by decide +kernel
theorem qv_n38 : Cond.initialized qx_e38.2.1.cls ∈ lw_tbl := qv_nc0
theorem qv_a38 : qs_nargs qx_e38.2.1 3 := ⟨qv_ac0.1, qv_ac0.2, qv_ad18⟩
theorem qv_ad19 : (parseMethodDescriptor "(III)Z").map (fun d => d.parameters.length) = some 3 := by decide +kernel
theorem qv_n39 : Cond.initialized qx_e39.2.1.cls ∈ lw_tbl := qv_nc1
theorem qv_a39 : qs_nargs qx_e39.2.1 3 := ⟨qv_ac1.1, qv_ac1.2, qv_ad19⟩
theorem qv_n40 : Cond.initialized qx_e40.2.1.cls ∈ lw_tbl := qv_nc1
theorem qv_a40 : qs_nargs qx_e40.2.1 1 := ⟨qv_ac1.1, qv_ac1.2, qv_ad12⟩
theorem qv_n41 : Cond.initialized qx_e41.2.1.cls ∈ lw_tbl := qv_nc0
theorem qv_a41 : qs_nargs qx_e41.2.1 1 := ⟨qv_ac0.1, qv_ac0.2, qv_ad12⟩
theorem qv_n42 : Cond.initialized qx_e42.2.1.cls ∈ lw_tbl := qv_nc1
theorem qv_a42 : qs_nargs qx_e42.2.1 3 := ⟨qv_ac1.1, qv_ac1.2, qv_ad18⟩
theorem qv_n43 : Cond.initialized qx_e43.2.1.cls ∈ lw_tbl := qv_nc0
theorem qv_a43 : qs_nargs qx_e43.2.1 3 := ⟨qv_ac0.1, qv_ac0.2, qv_ad18⟩
theorem qv_n44 : Cond.initialized qx_e44.2.1.cls ∈ lw_tbl := qv_nc7
theorem qv_a44 : qs_nargs qx_e44.2.1 1 := ⟨qv_ac7.1, qv_ac7.2, qv_ad12⟩
theorem qv_n45 : Cond.initialized qx_e45.2.1.cls ∈ lw_tbl := qv_nc7
theorem qv_a45 : qs_nargs qx_e45.2.1 1 := ⟨qv_ac7.1, qv_ac7.2, qv_ad12⟩
theorem qv_ad20 : (parseMethodDescriptor "(II)Z").map (fun d => d.parameters.length) = some 2 := by decide +kernel
theorem qv_n46 : Cond.initialized qx_e46.2.1.cls ∈ lw_tbl := qv_nc7
theorem qv_a46 : qs_nargs qx_e46.2.1 2 := ⟨qv_ac7.1, qv_ac7.2, qv_ad20⟩
theorem qv_n47 : Cond.initialized qx_e47.2.1.cls ∈ lw_tbl := qv_nc7
theorem qv_a47 : qs_nargs qx_e47.2.1 1 := ⟨qv_ac7.1, qv_ac7.2, qv_ad12⟩
theorem qv_ad21 : (parseMethodDescriptor "(II)J").map (fun d => d.parameters.length) = some 2 := by decide +kernel
theorem qv_n48 : Cond.initialized qx_e48.2.1.cls ∈ lw_tbl := qv_nc7
theorem qv_a48 : qs_nargs qx_e48.2.1 2 := ⟨qv_ac7.1, qv_ac7.2, qv_ad21⟩
theorem qv_n49 : Cond.initialized qx_e49.2.1.cls ∈ lw_tbl := qv_nc0
theorem qv_a49 : qs_nargs qx_e49.2.1 2 := ⟨qv_ac0.1, qv_ac0.2, qv_ad5⟩
theorem qv_ad22 : (parseMethodDescriptor "(JI)Z").map (fun d => d.parameters.length) = some 2 := by decide +kernel
theorem qv_n50 : Cond.initialized qx_e50.2.1.cls ∈ lw_tbl := qv_nc0
theorem qv_a50 : qs_nargs qx_e50.2.1 2 := ⟨qv_ac0.1, qv_ac0.2, qv_ad22⟩
theorem qv_n51 : Cond.initialized qx_e51.2.1.cls ∈ lw_tbl := qv_nc0
theorem qv_a51 : qs_nargs qx_e51.2.1 2 := ⟨qv_ac0.1, qv_ac0.2, qv_ad5⟩
theorem qv_n52 : Cond.initialized qx_e52.2.1.cls ∈ lw_tbl := qv_nc16
theorem qv_a52 : qs_nargs qx_e52.2.1 3 := ⟨qv_ac16.1, qv_ac16.2, qv_ad18⟩
theorem qv_n53 : Cond.initialized qx_e53.2.1.cls ∈ lw_tbl := qv_nc16
theorem qv_a53 : qs_nargs qx_e53.2.1 2 := ⟨qv_ac16.1, qv_ac16.2, qv_ad5⟩
theorem qv_n54 : Cond.initialized qx_e54.2.1.cls ∈ lw_tbl := qv_nc16
theorem qv_a54 : qs_nargs qx_e54.2.1 0 := ⟨qv_ac16.1, qv_ac16.2, qv_ad0⟩
theorem qv_ad23 : (parseMethodDescriptor "(III)V").map (fun d => d.parameters.length) = some 3 := by decide +kernel
theorem qv_n55 : Cond.initialized qx_e55.2.1.cls ∈ lw_tbl := qv_nc16
theorem qv_a55 : qs_nargs qx_e55.2.1 3 := ⟨qv_ac16.1, qv_ac16.2, qv_ad23⟩
theorem qv_n56 : Cond.initialized qx_e56.2.1.cls ∈ lw_tbl := qv_nc0
theorem qv_a56 : qs_nargs qx_e56.2.1 2 := ⟨qv_ac0.1, qv_ac0.2, qv_ad5⟩
theorem qv_n57 : Cond.initialized qx_e57.2.1.cls ∈ lw_tbl := qv_nc2
theorem qv_a57 : qs_nargs qx_e57.2.1 2 := ⟨qv_ac2.1, qv_ac2.2, qv_ad5⟩
theorem qv_n58 : Cond.initialized qx_e58.2.1.cls ∈ lw_tbl := qv_nc2
theorem qv_a58 : qs_nargs qx_e58.2.1 3 := ⟨qv_ac2.1, qv_ac2.2, qv_ad23⟩
theorem qv_n59 : Cond.initialized qx_e59.2.1.cls ∈ lw_tbl := qv_nc0
theorem qv_a59 : qs_nargs qx_e59.2.1 2 := ⟨qv_ac0.1, qv_ac0.2, qv_ad5⟩
theorem qv_n60 : Cond.initialized qx_e60.2.1.cls ∈ lw_tbl := qv_nc0
theorem qv_a60 : qs_nargs qx_e60.2.1 3 := ⟨qv_ac0.1, qv_ac0.2, qv_ad18⟩
theorem qv_n61 : Cond.initialized qx_e61.2.1.cls ∈ lw_tbl := qv_nc1
theorem qv_a61 : qs_nargs qx_e61.2.1 1 := ⟨qv_ac1.1, qv_ac1.2, qv_ad12⟩
theorem qv_n62 : Cond.initialized qx_e62.2.1.cls ∈ lw_tbl := qv_nc0
theorem qv_a62 : qs_nargs qx_e62.2.1 1 := ⟨qv_ac0.1, qv_ac0.2, qv_ad12⟩
theorem qv_ad24 : (parseMethodDescriptor "(IIIII)I").map (fun d => d.parameters.length) = some 5 := by decide +kernel
theorem qv_n63 : Cond.initialized qx_e63.2.1.cls ∈ lw_tbl := qv_nc4
theorem qv_a63 : qs_nargs qx_e63.2.1 5 := ⟨qv_ac4.1, qv_ac4.2, qv_ad24⟩
theorem qv_n64 : Cond.initialized qx_e64.2.1.cls ∈ lw_tbl := qv_nc0
theorem qv_a64 : qs_nargs qx_e64.2.1 2 := ⟨qv_ac0.1, qv_ac0.2, qv_ad5⟩
theorem qv_ad25 : (parseMethodDescriptor "(IIII)I").map (fun d => d.parameters.length) = some 4 := by decide +kernel
theorem qv_n65 : Cond.initialized qx_e65.2.1.cls ∈ lw_tbl := qv_nc0
theorem qv_a65 : qs_nargs qx_e65.2.1 4 := ⟨qv_ac0.1, qv_ac0.2, qv_ad25⟩
theorem qv_ad26 : (parseMethodDescriptor "(IIILOneRoof$Kinship;)I").map (fun d => d.parameters.length) = some 4 := by decide +kernel
theorem qv_n66 : Cond.initialized qx_e66.2.1.cls ∈ lw_tbl := qv_nc4
theorem qv_a66 : qs_nargs qx_e66.2.1 4 := ⟨qv_ac4.1, qv_ac4.2, qv_ad26⟩
theorem qv_n67 : Cond.initialized qx_e67.2.1.cls ∈ lw_tbl := qv_nc4
theorem qv_a67 : qs_nargs qx_e67.2.1 2 := ⟨qv_ac4.1, qv_ac4.2, qv_ad20⟩
theorem qv_n68 : Cond.initialized qx_e68.2.1.cls ∈ lw_tbl := qv_nc4
theorem qv_a68 : qs_nargs qx_e68.2.1 4 := ⟨qv_ac4.1, qv_ac4.2, qv_ad26⟩
theorem qv_ad27 : (parseMethodDescriptor "(IJII)I").map (fun d => d.parameters.length) = some 4 := by decide +kernel
theorem qv_n69 : Cond.initialized qx_e69.2.1.cls ∈ lw_tbl := qv_nc0
theorem qv_a69 : qs_nargs qx_e69.2.1 4 := ⟨qv_ac0.1, qv_ac0.2, qv_ad27⟩
theorem qv_n70 : Cond.initialized qx_e70.2.1.cls ∈ lw_tbl := qv_nc0
theorem qv_a70 : qs_nargs qx_e70.2.1 1 := ⟨qv_ac0.1, qv_ac0.2, qv_ad12⟩
theorem qv_ad28 : (parseMethodDescriptor "(IIJII)I").map (fun d => d.parameters.length) = some 5 := by decide +kernel
theorem qv_n71 : Cond.initialized qx_e71.2.1.cls ∈ lw_tbl := qv_nc5
theorem qv_a71 : qs_nargs qx_e71.2.1 5 := ⟨qv_ac5.1, qv_ac5.2, qv_ad28⟩
theorem qv_n72 : Cond.initialized qx_e72.2.1.cls ∈ lw_tbl := qv_nc0
theorem qv_a72 : qs_nargs qx_e72.2.1 2 := ⟨qv_ac0.1, qv_ac0.2, qv_ad5⟩
theorem qv_n73 : Cond.initialized qx_e73.2.1.cls ∈ lw_tbl := qv_nc5
theorem qv_a73 : qs_nargs qx_e73.2.1 1 := ⟨qv_ac5.1, qv_ac5.2, qv_ad12⟩
set_option maxRecDepth 100000 in
theorem qv_nc17 : Cond.initialized "java/lang/Long" ∈ lw_tbl := qv_in1 (List.mem_of_getElem? (i := 23) rfl)
theorem qv_ac17 : "java/lang/Long" ≠ "java/lang/invoke/MethodHandle" ∧ "java/lang/Long" ≠ "java/lang/invoke/VarHandle" := ⟨by decide +kernel, by decide +kernel⟩
theorem qv_ad29 : (parseMethodDescriptor "(J)I").map (fun d => d.parameters.length) = some 1 := by decide +kernel
theorem qv_n74 : Cond.initialized qx_e74.2.1.cls ∈ lw_tbl := qv_nc17
theorem qv_a74 : qs_nargs qx_e74.2.1 1 := ⟨qv_ac17.1, qv_ac17.2, qv_ad29⟩
theorem qv_n75 : Cond.initialized qx_e75.2.1.cls ∈ lw_tbl := qv_nc0
theorem qv_a75 : qs_nargs qx_e75.2.1 3 := ⟨qv_ac0.1, qv_ac0.2, qv_ad18⟩
theorem qv_n76 : Cond.initialized qx_e76.2.1.cls ∈ lw_tbl := qv_nc0
theorem qv_a76 : qs_nargs qx_e76.2.1 3 := ⟨qv_ac0.1, qv_ac0.2, qv_ad18⟩
theorem qv_n77 : Cond.initialized qx_e77.2.1.cls ∈ lw_tbl := qv_nc5
theorem qv_a77 : qs_nargs qx_e77.2.1 2 := ⟨qv_ac5.1, qv_ac5.2, qv_ad20⟩
theorem qv_ad30 : (parseMethodDescriptor "(IIILOneRoof$Folk;)Z").map (fun d => d.parameters.length) = some 4 := by decide +kernel
theorem qv_n78 : Cond.initialized qx_e78.2.1.cls ∈ lw_tbl := qv_nc5
theorem qv_a78 : qs_nargs qx_e78.2.1 4 := ⟨qv_ac5.1, qv_ac5.2, qv_ad30⟩
theorem qv_n79 : Cond.initialized qx_e79.2.1.cls ∈ lw_tbl := qv_nc0
theorem qv_a79 : qs_nargs qx_e79.2.1 2 := ⟨qv_ac0.1, qv_ac0.2, qv_ad5⟩
theorem qv_ad31 : (parseMethodDescriptor "(IIILOneRoof$Folk;)J").map (fun d => d.parameters.length) = some 4 := by decide +kernel
theorem qv_n80 : Cond.initialized qx_e80.2.1.cls ∈ lw_tbl := qv_nc5
theorem qv_a80 : qs_nargs qx_e80.2.1 4 := ⟨qv_ac5.1, qv_ac5.2, qv_ad31⟩
theorem qv_n81 : Cond.initialized qx_e81.2.1.cls ∈ lw_tbl := qv_nc0
theorem qv_a81 : qs_nargs qx_e81.2.1 2 := ⟨qv_ac0.1, qv_ac0.2, qv_ad5⟩
theorem qv_n82 : Cond.initialized qx_e82.2.1.cls ∈ lw_tbl := qv_nc17
theorem qv_a82 : qs_nargs qx_e82.2.1 1 := ⟨qv_ac17.1, qv_ac17.2, qv_ad29⟩
set_option maxRecDepth 100000 in
theorem qv_nc18 : Cond.initialized "java/lang/Integer" ∈ lw_tbl := qv_in1 (List.mem_of_getElem? (i := 24) rfl)
theorem qv_ac18 : "java/lang/Integer" ≠ "java/lang/invoke/MethodHandle" ∧ "java/lang/Integer" ≠ "java/lang/invoke/VarHandle" := ⟨by decide +kernel, by decide +kernel⟩
theorem qv_n83 : Cond.initialized qx_e83.2.1.cls ∈ lw_tbl := qv_nc18
theorem qv_a83 : qs_nargs qx_e83.2.1 1 := ⟨qv_ac18.1, qv_ac18.2, qv_ad13⟩
theorem qv_n84 : Cond.initialized qx_e84.2.1.cls ∈ lw_tbl := qv_nc0
theorem qv_a84 : qs_nargs qx_e84.2.1 2 := ⟨qv_ac0.1, qv_ac0.2, qv_ad5⟩
theorem qv_n85 : Cond.initialized qx_e85.2.1.cls ∈ lw_tbl := qv_nc0
theorem qv_a85 : qs_nargs qx_e85.2.1 1 := ⟨qv_ac0.1, qv_ac0.2, qv_ad13⟩
theorem qv_ad32 : (parseMethodDescriptor "([II)I").map (fun d => d.parameters.length) = some 2 := by decide +kernel
theorem qv_n86 : Cond.initialized qx_e86.2.1.cls ∈ lw_tbl := qv_nc8
theorem qv_a86 : qs_nargs qx_e86.2.1 2 := ⟨qv_ac8.1, qv_ac8.2, qv_ad32⟩
theorem qv_ad33 : (parseMethodDescriptor "(IJI)I").map (fun d => d.parameters.length) = some 3 := by decide +kernel
theorem qv_n87 : Cond.initialized qx_e87.2.1.cls ∈ lw_tbl := qv_nc0
theorem qv_a87 : qs_nargs qx_e87.2.1 3 := ⟨qv_ac0.1, qv_ac0.2, qv_ad33⟩
theorem qv_ad34 : (parseMethodDescriptor "(J)Z").map (fun d => d.parameters.length) = some 1 := by decide +kernel
theorem qv_n88 : Cond.initialized qx_e88.2.1.cls ∈ lw_tbl := qv_nc1
theorem qv_a88 : qs_nargs qx_e88.2.1 1 := ⟨qv_ac1.1, qv_ac1.2, qv_ad34⟩
theorem qv_n89 : Cond.initialized qx_e89.2.1.cls ∈ lw_tbl := qv_nc13
theorem qv_a89 : qs_nargs qx_e89.2.1 1 := ⟨qv_ac13.1, qv_ac13.2, qv_ad11⟩
theorem qv_ad35 : (parseMethodDescriptor "(IIIIJ)I").map (fun d => d.parameters.length) = some 5 := by decide +kernel
theorem qv_n90 : Cond.initialized qx_e90.2.1.cls ∈ lw_tbl := qv_nc13
theorem qv_a90 : qs_nargs qx_e90.2.1 5 := ⟨qv_ac13.1, qv_ac13.2, qv_ad35⟩
theorem qv_n91 : Cond.initialized qx_e91.2.1.cls ∈ lw_tbl := qv_nc8
theorem qv_a91 : qs_nargs qx_e91.2.1 1 := ⟨qv_ac8.1, qv_ac8.2, qv_ad12⟩
theorem qv_n92 : Cond.initialized qx_e92.2.1.cls ∈ lw_tbl := qv_nc13
theorem qv_a92 : qs_nargs qx_e92.2.1 2 := ⟨qv_ac13.1, qv_ac13.2, qv_ad5⟩
theorem qv_n93 : Cond.initialized qx_e93.2.1.cls ∈ lw_tbl := qv_nc13
theorem qv_a93 : qs_nargs qx_e93.2.1 2 := ⟨qv_ac13.1, qv_ac13.2, qv_ad5⟩
theorem qv_n94 : Cond.initialized qx_e94.2.1.cls ∈ lw_tbl := qv_nc13
theorem qv_a94 : qs_nargs qx_e94.2.1 2 := ⟨qv_ac13.1, qv_ac13.2, qv_ad21⟩
theorem qv_ad36 : (parseMethodDescriptor "(IJ)I").map (fun d => d.parameters.length) = some 2 := by decide +kernel
theorem qv_n95 : Cond.initialized qx_e95.2.1.cls ∈ lw_tbl := qv_nc1
theorem qv_a95 : qs_nargs qx_e95.2.1 2 := ⟨qv_ac1.1, qv_ac1.2, qv_ad36⟩
theorem qv_n96 : Cond.initialized qx_e96.2.1.cls ∈ lw_tbl := qv_nc1
theorem qv_a96 : qs_nargs qx_e96.2.1 2 := ⟨qv_ac1.1, qv_ac1.2, qv_ad20⟩
theorem qv_ad37 : (parseMethodDescriptor "([I)I").map (fun d => d.parameters.length) = some 1 := by decide +kernel
theorem qv_n97 : Cond.initialized qx_e97.2.1.cls ∈ lw_tbl := qv_nc8
theorem qv_a97 : qs_nargs qx_e97.2.1 1 := ⟨qv_ac8.1, qv_ac8.2, qv_ad37⟩
theorem qv_n98 : Cond.initialized qx_e98.2.1.cls ∈ lw_tbl := qv_nc8
theorem qv_a98 : qs_nargs qx_e98.2.1 3 := ⟨qv_ac8.1, qv_ac8.2, qv_ad18⟩
theorem qv_ad38 : (parseMethodDescriptor "(JII)I").map (fun d => d.parameters.length) = some 3 := by decide +kernel
theorem qv_n99 : Cond.initialized qx_e99.2.1.cls ∈ lw_tbl := qv_nc0
theorem qv_a99 : qs_nargs qx_e99.2.1 3 := ⟨qv_ac0.1, qv_ac0.2, qv_ad38⟩
theorem qv_n100 : Cond.initialized qx_e100.2.1.cls ∈ lw_tbl := qv_nc0
theorem qv_a100 : qs_nargs qx_e100.2.1 1 := ⟨qv_ac0.1, qv_ac0.2, qv_ad12⟩
theorem qv_n101 : Cond.initialized qx_e101.2.1.cls ∈ lw_tbl := qv_nc13
theorem qv_a101 : qs_nargs qx_e101.2.1 1 := ⟨qv_ac13.1, qv_ac13.2, qv_ad12⟩
theorem qv_n102 : Cond.initialized qx_e102.2.1.cls ∈ lw_tbl := qv_nc4
theorem qv_a102 : qs_nargs qx_e102.2.1 1 := ⟨qv_ac4.1, qv_ac4.2, qv_ad12⟩
theorem qv_n103 : Cond.initialized qx_e103.2.1.cls ∈ lw_tbl := qv_nc5
theorem qv_a103 : qs_nargs qx_e103.2.1 1 := ⟨qv_ac5.1, qv_ac5.2, qv_ad12⟩
theorem qv_n104 : Cond.initialized qx_e104.2.1.cls ∈ lw_tbl := qv_nc13
theorem qv_a104 : qs_nargs qx_e104.2.1 1 := ⟨qv_ac13.1, qv_ac13.2, qv_ad29⟩
theorem qv_n105 : Cond.initialized qx_e105.2.1.cls ∈ lw_tbl := qv_nc0
theorem qv_a105 : qs_nargs qx_e105.2.1 2 := ⟨qv_ac0.1, qv_ac0.2, qv_ad5⟩
theorem qv_ad39 : (parseMethodDescriptor "(IIII)Z").map (fun d => d.parameters.length) = some 4 := by decide +kernel
theorem qv_n106 : Cond.initialized qx_e106.2.1.cls ∈ lw_tbl := qv_nc13
theorem qv_a106 : qs_nargs qx_e106.2.1 4 := ⟨qv_ac13.1, qv_ac13.2, qv_ad39⟩
theorem qv_n107 : Cond.initialized qx_e107.2.1.cls ∈ lw_tbl := qv_nc13
theorem qv_a107 : qs_nargs qx_e107.2.1 2 := ⟨qv_ac13.1, qv_ac13.2, qv_ad20⟩
theorem qv_ad40 : (parseMethodDescriptor "(JJI)J").map (fun d => d.parameters.length) = some 3 := by decide +kernel
theorem qv_n108 : Cond.initialized qx_e108.2.1.cls ∈ lw_tbl := qv_nc0
theorem qv_a108 : qs_nargs qx_e108.2.1 3 := ⟨qv_ac0.1, qv_ac0.2, qv_ad40⟩
theorem qv_n109 : Cond.initialized qx_e109.2.1.cls ∈ lw_tbl := qv_nc0
theorem qv_a109 : qs_nargs qx_e109.2.1 2 := ⟨qv_ac0.1, qv_ac0.2, qv_ad22⟩
theorem qv_ad41 : (parseMethodDescriptor "(J)V").map (fun d => d.parameters.length) = some 1 := by decide +kernel
theorem qv_n110 : Cond.initialized qx_e110.2.1.cls ∈ lw_tbl := qv_nc14
theorem qv_a110 : qs_nargs qx_e110.2.1 1 := ⟨qv_ac14.1, qv_ac14.2, qv_ad41⟩
theorem qv_n111 : Cond.initialized qx_e111.2.1.cls ∈ lw_tbl := qv_nc14
theorem qv_a111 : qs_nargs qx_e111.2.1 2 := ⟨qv_ac14.1, qv_ac14.2, qv_ad9⟩
theorem qv_ad42 : (parseMethodDescriptor "(J)J").map (fun d => d.parameters.length) = some 1 := by decide +kernel
theorem qv_n112 : Cond.initialized qx_e112.2.1.cls ∈ lw_tbl := qv_nc14
theorem qv_a112 : qs_nargs qx_e112.2.1 1 := ⟨qv_ac14.1, qv_ac14.2, qv_ad42⟩
theorem qv_n113 : Cond.initialized qx_e113.2.1.cls ∈ lw_tbl := qv_nc14
theorem qv_a113 : qs_nargs qx_e113.2.1 1 := ⟨qv_ac14.1, qv_ac14.2, qv_ad13⟩
theorem qv_n114 : Cond.initialized qx_e114.2.1.cls ∈ lw_tbl := qv_nc14
theorem qv_a114 : qs_nargs qx_e114.2.1 1 := ⟨qv_ac14.1, qv_ac14.2, qv_ad13⟩
theorem qv_n115 : Cond.initialized qx_e115.2.1.cls ∈ lw_tbl := qv_nc18
theorem qv_a115 : qs_nargs qx_e115.2.1 1 := ⟨qv_ac18.1, qv_ac18.2, qv_ad13⟩
theorem qv_ad43 : (parseMethodDescriptor "(I)J").map (fun d => d.parameters.length) = some 1 := by decide +kernel
theorem qv_n116 : Cond.initialized qx_e116.2.1.cls ∈ lw_tbl := qv_nc14
theorem qv_a116 : qs_nargs qx_e116.2.1 1 := ⟨qv_ac14.1, qv_ac14.2, qv_ad43⟩
theorem qv_ad44 : (parseMethodDescriptor "(JII)J").map (fun d => d.parameters.length) = some 3 := by decide +kernel
theorem qv_n117 : Cond.initialized qx_e117.2.1.cls ∈ lw_tbl := qv_nc0
theorem qv_a117 : qs_nargs qx_e117.2.1 3 := ⟨qv_ac0.1, qv_ac0.2, qv_ad44⟩
theorem qv_n118 : Cond.initialized qx_e118.2.1.cls ∈ lw_tbl := qv_nc14
theorem qv_a118 : qs_nargs qx_e118.2.1 1 := ⟨qv_ac14.1, qv_ac14.2, qv_ad43⟩
theorem qv_n119 : Cond.initialized qx_e119.2.1.cls ∈ lw_tbl := qv_nc14
theorem qv_a119 : qs_nargs qx_e119.2.1 0 := ⟨qv_ac14.1, qv_ac14.2, qv_ad0⟩
theorem qv_n120 : Cond.initialized qx_e120.2.1.cls ∈ lw_tbl := qv_nc0
theorem qv_a120 : qs_nargs qx_e120.2.1 3 := ⟨qv_ac0.1, qv_ac0.2, qv_ad44⟩
theorem qv_ad45 : (parseMethodDescriptor "(III)J").map (fun d => d.parameters.length) = some 3 := by decide +kernel
theorem qv_n121 : Cond.initialized qx_e121.2.1.cls ∈ lw_tbl := qv_nc14
theorem qv_a121 : qs_nargs qx_e121.2.1 3 := ⟨qv_ac14.1, qv_ac14.2, qv_ad45⟩
theorem qv_n122 : Cond.initialized qx_e122.2.1.cls ∈ lw_tbl := qv_nc4
theorem qv_a122 : qs_nargs qx_e122.2.1 2 := ⟨qv_ac4.1, qv_ac4.2, qv_ad21⟩
theorem qv_n123 : Cond.initialized qx_e123.2.1.cls ∈ lw_tbl := qv_nc14
theorem qv_a123 : qs_nargs qx_e123.2.1 2 := ⟨qv_ac14.1, qv_ac14.2, qv_ad21⟩
theorem qv_ad46 : (parseMethodDescriptor "(IIILOneRoof$Kinship;)J").map (fun d => d.parameters.length) = some 4 := by decide +kernel
theorem qv_n124 : Cond.initialized qx_e124.2.1.cls ∈ lw_tbl := qv_nc4
theorem qv_a124 : qs_nargs qx_e124.2.1 4 := ⟨qv_ac4.1, qv_ac4.2, qv_ad46⟩
theorem qv_n125 : Cond.initialized qx_e125.2.1.cls ∈ lw_tbl := qv_nc4
theorem qv_a125 : qs_nargs qx_e125.2.1 1 := ⟨qv_ac4.1, qv_ac4.2, qv_ad29⟩
theorem qv_n126 : Cond.initialized qx_e126.2.1.cls ∈ lw_tbl := qv_nc0
theorem qv_a126 : qs_nargs qx_e126.2.1 2 := ⟨qv_ac0.1, qv_ac0.2, qv_ad5⟩
theorem qv_n127 : Cond.initialized qx_e127.2.1.cls ∈ lw_tbl := qv_nc0
theorem qv_a127 : qs_nargs qx_e127.2.1 3 := ⟨qv_ac0.1, qv_ac0.2, qv_ad38⟩
theorem qv_n128 : Cond.initialized qx_e128.2.1.cls ∈ lw_tbl := qv_nc14
theorem qv_a128 : qs_nargs qx_e128.2.1 3 := ⟨qv_ac14.1, qv_ac14.2, qv_ad23⟩
theorem qv_n129 : Cond.initialized qx_e129.2.1.cls ∈ lw_tbl := qv_nc14
theorem qv_a129 : qs_nargs qx_e129.2.1 2 := ⟨qv_ac14.1, qv_ac14.2, qv_ad20⟩
theorem qv_n130 : Cond.initialized qx_e130.2.1.cls ∈ lw_tbl := qv_nc14
theorem qv_a130 : qs_nargs qx_e130.2.1 0 := ⟨qv_ac14.1, qv_ac14.2, qv_ad3⟩
theorem qv_n131 : Cond.initialized qx_e131.2.1.cls ∈ lw_tbl := qv_nc14
theorem qv_a131 : qs_nargs qx_e131.2.1 3 := ⟨qv_ac14.1, qv_ac14.2, qv_ad18⟩
theorem qv_n132 : Cond.initialized qx_e132.2.1.cls ∈ lw_tbl := qv_nc14
theorem qv_a132 : qs_nargs qx_e132.2.1 2 := ⟨qv_ac14.1, qv_ac14.2, qv_ad20⟩
theorem qv_n133 : Cond.initialized qx_e133.2.1.cls ∈ lw_tbl := qv_nc0
theorem qv_a133 : qs_nargs qx_e133.2.1 4 := ⟨qv_ac0.1, qv_ac0.2, qv_ad27⟩
theorem qv_ad47 : (parseMethodDescriptor "(IIJ)V").map (fun d => d.parameters.length) = some 3 := by decide +kernel
theorem qv_n134 : Cond.initialized qx_e134.2.1.cls ∈ lw_tbl := qv_nc15
theorem qv_a134 : qs_nargs qx_e134.2.1 3 := ⟨qv_ac15.1, qv_ac15.2, qv_ad47⟩
theorem qv_n135 : Cond.initialized qx_e135.2.1.cls ∈ lw_tbl := qv_nc15
theorem qv_a135 : qs_nargs qx_e135.2.1 2 := ⟨qv_ac15.1, qv_ac15.2, qv_ad9⟩
theorem qv_n136 : Cond.initialized qx_e136.2.1.cls ∈ lw_tbl := qv_nc5
theorem qv_a136 : qs_nargs qx_e136.2.1 1 := ⟨qv_ac5.1, qv_ac5.2, qv_ad43⟩
theorem qv_n137 : Cond.initialized qx_e137.2.1.cls ∈ lw_tbl := qv_nc15
theorem qv_a137 : qs_nargs qx_e137.2.1 0 := ⟨qv_ac15.1, qv_ac15.2, qv_ad3⟩
theorem qv_n138 : Cond.initialized qx_e138.2.1.cls ∈ lw_tbl := qv_nc0
theorem qv_a138 : qs_nargs qx_e138.2.1 1 := ⟨qv_ac0.1, qv_ac0.2, qv_ad13⟩
theorem qv_ad48 : (parseMethodDescriptor "()J").map (fun d => d.parameters.length) = some 0 := by decide +kernel
theorem qv_n139 : Cond.initialized qx_e139.2.1.cls ∈ lw_tbl := qv_nc0
theorem qv_a139 : qs_nargs qx_e139.2.1 0 := ⟨qv_ac0.1, qv_ac0.2, qv_ad48⟩
theorem qv_ad49 : (parseMethodDescriptor "(JI)I").map (fun d => d.parameters.length) = some 2 := by decide +kernel
theorem qv_n140 : Cond.initialized qx_e140.2.1.cls ∈ lw_tbl := qv_nc0
theorem qv_a140 : qs_nargs qx_e140.2.1 2 := ⟨qv_ac0.1, qv_ac0.2, qv_ad49⟩
theorem qv_n141 : Cond.initialized qx_e141.2.1.cls ∈ lw_tbl := qv_nc0
theorem qv_a141 : qs_nargs qx_e141.2.1 3 := ⟨qv_ac0.1, qv_ac0.2, qv_ad18⟩
theorem qv_ad50 : (parseMethodDescriptor "(ILOneRoof$Kinship;I)I").map (fun d => d.parameters.length) = some 3 := by decide +kernel
theorem qv_n142 : Cond.initialized qx_e142.2.1.cls ∈ lw_tbl := qv_nc4
theorem qv_a142 : qs_nargs qx_e142.2.1 3 := ⟨qv_ac4.1, qv_ac4.2, qv_ad50⟩
theorem qv_ad51 : (parseMethodDescriptor "(LOneRoof$Kinship;)V").map (fun d => d.parameters.length) = some 1 := by decide +kernel
theorem qv_n143 : Cond.initialized qx_e143.2.1.cls ∈ lw_tbl := qv_nc2
theorem qv_a143 : qs_nargs qx_e143.2.1 1 := ⟨qv_ac2.1, qv_ac2.2, qv_ad51⟩
theorem qv_n144 : Cond.initialized qx_e144.2.1.cls ∈ lw_tbl := qv_nc0
theorem qv_a144 : qs_nargs qx_e144.2.1 0 := ⟨qv_ac0.1, qv_ac0.2, qv_ad3⟩
theorem qv_n145 : Cond.initialized qx_e145.2.1.cls ∈ lw_tbl := qv_nc16
theorem qv_a145 : qs_nargs qx_e145.2.1 0 := ⟨qv_ac16.1, qv_ac16.2, qv_ad3⟩
theorem qv_n146 : Cond.initialized qx_e146.2.1.cls ∈ lw_tbl := qv_nc0
theorem qv_a146 : qs_nargs qx_e146.2.1 0 := ⟨qv_ac0.1, qv_ac0.2, qv_ad3⟩
theorem qv_n147 : Cond.initialized qx_e147.2.1.cls ∈ lw_tbl := qv_nc16
theorem qv_a147 : qs_nargs qx_e147.2.1 0 := ⟨qv_ac16.1, qv_ac16.2, qv_ad3⟩
theorem qv_n148 : Cond.initialized qx_e148.2.1.cls ∈ lw_tbl := qv_nc0
theorem qv_a148 : qs_nargs qx_e148.2.1 3 := ⟨qv_ac0.1, qv_ac0.2, qv_ad18⟩
theorem qv_n149 : Cond.initialized qx_e149.2.1.cls ∈ lw_tbl := qv_nc6
theorem qv_a149 : qs_nargs qx_e149.2.1 0 := ⟨qv_ac6.1, qv_ac6.2, qv_ad0⟩
theorem qv_n150 : Cond.initialized qx_e150.2.1.cls ∈ lw_tbl := qv_nc6
theorem qv_a150 : qs_nargs qx_e150.2.1 4 := ⟨qv_ac6.1, qv_ac6.2, qv_ad25⟩
theorem qv_n151 : Cond.initialized qx_e151.2.1.cls ∈ lw_tbl := qv_nc6
theorem qv_a151 : qs_nargs qx_e151.2.1 5 := ⟨qv_ac6.1, qv_ac6.2, qv_ad24⟩
theorem qv_ad52 : (parseMethodDescriptor "(IIIIII)I").map (fun d => d.parameters.length) = some 6 := by decide +kernel
theorem qv_n152 : Cond.initialized qx_e152.2.1.cls ∈ lw_tbl := qv_nc6
theorem qv_a152 : qs_nargs qx_e152.2.1 6 := ⟨qv_ac6.1, qv_ac6.2, qv_ad52⟩
theorem qv_n153 : Cond.initialized qx_e153.2.1.cls ∈ lw_tbl := qv_nc6
theorem qv_a153 : qs_nargs qx_e153.2.1 6 := ⟨qv_ac6.1, qv_ac6.2, qv_ad52⟩
theorem qv_n154 : Cond.initialized qx_e154.2.1.cls ∈ lw_tbl := qv_nc0
theorem qv_a154 : qs_nargs qx_e154.2.1 1 := ⟨qv_ac0.1, qv_ac0.2, qv_ad13⟩
theorem qv_n155 : Cond.initialized qx_e155.2.1.cls ∈ lw_tbl := qv_nc0
theorem qv_a155 : qs_nargs qx_e155.2.1 2 := ⟨qv_ac0.1, qv_ac0.2, qv_ad5⟩
theorem qv_n156 : Cond.initialized qx_e156.2.1.cls ∈ lw_tbl := qv_nc7
theorem qv_a156 : qs_nargs qx_e156.2.1 2 := ⟨qv_ac7.1, qv_ac7.2, qv_ad9⟩
theorem qv_n157 : Cond.initialized qx_e157.2.1.cls ∈ lw_tbl := qv_nc0
theorem qv_a157 : qs_nargs qx_e157.2.1 3 := ⟨qv_ac0.1, qv_ac0.2, qv_ad18⟩
theorem qv_n158 : Cond.initialized qx_e158.2.1.cls ∈ lw_tbl := qv_nc7
theorem qv_a158 : qs_nargs qx_e158.2.1 3 := ⟨qv_ac7.1, qv_ac7.2, qv_ad23⟩
theorem qv_ad53 : (parseMethodDescriptor "(IIJ)I").map (fun d => d.parameters.length) = some 3 := by decide +kernel
theorem qv_n159 : Cond.initialized qx_e159.2.1.cls ∈ lw_tbl := qv_nc0
theorem qv_a159 : qs_nargs qx_e159.2.1 3 := ⟨qv_ac0.1, qv_ac0.2, qv_ad53⟩
theorem qv_n160 : Cond.initialized qx_e160.2.1.cls ∈ lw_tbl := qv_nc7
theorem qv_a160 : qs_nargs qx_e160.2.1 2 := ⟨qv_ac7.1, qv_ac7.2, qv_ad5⟩
theorem qv_n161 : Cond.initialized qx_e161.2.1.cls ∈ lw_tbl := qv_nc7
theorem qv_a161 : qs_nargs qx_e161.2.1 3 := ⟨qv_ac7.1, qv_ac7.2, qv_ad47⟩
theorem qv_ad54 : (parseMethodDescriptor "(IJ)J").map (fun d => d.parameters.length) = some 2 := by decide +kernel
theorem qv_n162 : Cond.initialized qx_e162.2.1.cls ∈ lw_tbl := qv_nc7
theorem qv_a162 : qs_nargs qx_e162.2.1 2 := ⟨qv_ac7.1, qv_ac7.2, qv_ad54⟩
theorem qv_n163 : Cond.initialized qx_e163.2.1.cls ∈ lw_tbl := qv_nc0
theorem qv_a163 : qs_nargs qx_e163.2.1 2 := ⟨qv_ac0.1, qv_ac0.2, qv_ad21⟩
theorem qv_n164 : Cond.initialized qx_e164.2.1.cls ∈ lw_tbl := qv_nc0
theorem qv_a164 : qs_nargs qx_e164.2.1 5 := ⟨qv_ac0.1, qv_ac0.2, qv_ad24⟩
theorem qv_n165 : Cond.initialized qx_e165.2.1.cls ∈ lw_tbl := qv_nc7
theorem qv_a165 : qs_nargs qx_e165.2.1 3 := ⟨qv_ac7.1, qv_ac7.2, qv_ad19⟩
theorem qv_ad55 : (parseMethodDescriptor "(IIIII)V").map (fun d => d.parameters.length) = some 5 := by decide +kernel
theorem qv_n166 : Cond.initialized qx_e166.2.1.cls ∈ lw_tbl := qv_nc7
theorem qv_a166 : qs_nargs qx_e166.2.1 5 := ⟨qv_ac7.1, qv_ac7.2, qv_ad55⟩
theorem qv_n167 : Cond.initialized qx_e167.2.1.cls ∈ lw_tbl := qv_nc0
theorem qv_a167 : qs_nargs qx_e167.2.1 2 := ⟨qv_ac0.1, qv_ac0.2, qv_ad5⟩
theorem qv_n168 : Cond.initialized qx_e168.2.1.cls ∈ lw_tbl := qv_nc7
theorem qv_a168 : qs_nargs qx_e168.2.1 1 := ⟨qv_ac7.1, qv_ac7.2, qv_ad13⟩
theorem qv_n169 : Cond.initialized qx_e169.2.1.cls ∈ lw_tbl := qv_nc6
theorem qv_a169 : qs_nargs qx_e169.2.1 2 := ⟨qv_ac6.1, qv_ac6.2, qv_ad20⟩
theorem qv_n170 : Cond.initialized qx_e170.2.1.cls ∈ lw_tbl := qv_nc0
theorem qv_a170 : qs_nargs qx_e170.2.1 1 := ⟨qv_ac0.1, qv_ac0.2, qv_ad13⟩
set_option maxRecDepth 100000 in
theorem qv_nc19 : Cond.initialized "OneRoofModel" ∈ lw_tbl := qv_in1 (List.mem_of_getElem? (i := 20) rfl)
theorem qv_ac19 : "OneRoofModel" ≠ "java/lang/invoke/MethodHandle" ∧ "OneRoofModel" ≠ "java/lang/invoke/VarHandle" := ⟨by decide +kernel, by decide +kernel⟩
theorem qv_n171 : Cond.initialized qx_e171.2.1.cls ∈ lw_tbl := qv_nc19
theorem qv_a171 : qs_nargs qx_e171.2.1 0 := ⟨qv_ac19.1, qv_ac19.2, qv_ad0⟩
theorem qv_n172 : Cond.initialized qx_e172.2.1.cls ∈ lw_tbl := qv_nc19
theorem qv_a172 : qs_nargs qx_e172.2.1 0 := ⟨qv_ac19.1, qv_ac19.2, qv_ad3⟩
theorem qv_n173 : Cond.initialized qx_e173.2.1.cls ∈ lw_tbl := qv_nc19
theorem qv_a173 : qs_nargs qx_e173.2.1 0 := ⟨qv_ac19.1, qv_ac19.2, qv_ad3⟩
theorem qv_n174 : Cond.initialized qx_e174.2.1.cls ∈ lw_tbl := qv_nc19
theorem qv_a174 : qs_nargs qx_e174.2.1 3 := ⟨qv_ac19.1, qv_ac19.2, qv_ad18⟩
theorem qv_n175 : Cond.initialized qx_e175.2.1.cls ∈ lw_tbl := qv_nc19
theorem qv_a175 : qs_nargs qx_e175.2.1 3 := ⟨qv_ac19.1, qv_ac19.2, qv_ad19⟩
theorem qv_ad56 : (parseMethodDescriptor "(JJJ)Z").map (fun d => d.parameters.length) = some 3 := by decide +kernel
theorem qv_n176 : Cond.initialized qx_e176.2.1.cls ∈ lw_tbl := qv_nc19
theorem qv_a176 : qs_nargs qx_e176.2.1 3 := ⟨qv_ac19.1, qv_ac19.2, qv_ad56⟩
theorem qv_n177 : Cond.initialized qx_e177.2.1.cls ∈ lw_tbl := qv_nc19
theorem qv_a177 : qs_nargs qx_e177.2.1 3 := ⟨qv_ac19.1, qv_ac19.2, qv_ad18⟩
theorem qv_n178 : Cond.initialized qx_e178.2.1.cls ∈ lw_tbl := qv_nc19
theorem qv_a178 : qs_nargs qx_e178.2.1 1 := ⟨qv_ac19.1, qv_ac19.2, qv_ad12⟩
theorem qv_n179 : Cond.initialized qx_e179.2.1.cls ∈ lw_tbl := qv_nc19
theorem qv_a179 : qs_nargs qx_e179.2.1 2 := ⟨qv_ac19.1, qv_ac19.2, qv_ad5⟩
theorem qv_n180 : Cond.initialized qx_e180.2.1.cls ∈ lw_tbl := qv_nc19
theorem qv_a180 : qs_nargs qx_e180.2.1 1 := ⟨qv_ac19.1, qv_ac19.2, qv_ad12⟩
theorem qv_n181 : Cond.initialized qx_e181.2.1.cls ∈ lw_tbl := qv_nc19
theorem qv_a181 : qs_nargs qx_e181.2.1 1 := ⟨qv_ac19.1, qv_ac19.2, qv_ad12⟩
theorem qv_n182 : Cond.initialized qx_e182.2.1.cls ∈ lw_tbl := qv_nc19
theorem qv_a182 : qs_nargs qx_e182.2.1 2 := ⟨qv_ac19.1, qv_ac19.2, qv_ad5⟩
theorem qv_n183 : Cond.initialized qx_e183.2.1.cls ∈ lw_tbl := qv_nc19
theorem qv_a183 : qs_nargs qx_e183.2.1 2 := ⟨qv_ac19.1, qv_ac19.2, qv_ad5⟩
theorem qv_n184 : Cond.initialized qx_e184.2.1.cls ∈ lw_tbl := qv_nc19
theorem qv_a184 : qs_nargs qx_e184.2.1 2 := ⟨qv_ac19.1, qv_ac19.2, qv_ad5⟩
theorem qv_n185 : Cond.initialized qx_e185.2.1.cls ∈ lw_tbl := qv_nc19
theorem qv_a185 : qs_nargs qx_e185.2.1 2 := ⟨qv_ac19.1, qv_ac19.2, qv_ad20⟩
theorem qv_n186 : Cond.initialized qx_e186.2.1.cls ∈ lw_tbl := qv_nc19
theorem qv_a186 : qs_nargs qx_e186.2.1 2 := ⟨qv_ac19.1, qv_ac19.2, qv_ad5⟩
theorem qv_n187 : Cond.initialized qx_e187.2.1.cls ∈ lw_tbl := qv_nc19
theorem qv_a187 : qs_nargs qx_e187.2.1 2 := ⟨qv_ac19.1, qv_ac19.2, qv_ad5⟩
theorem qv_n188 : Cond.initialized qx_e188.2.1.cls ∈ lw_tbl := qv_nc19
theorem qv_a188 : qs_nargs qx_e188.2.1 0 := ⟨qv_ac19.1, qv_ac19.2, qv_ad0⟩
theorem qv_n189 : Cond.initialized qx_e189.2.1.cls ∈ lw_tbl := qv_nc19
theorem qv_a189 : qs_nargs qx_e189.2.1 2 := ⟨qv_ac19.1, qv_ac19.2, qv_ad20⟩
theorem qv_n190 : Cond.initialized qx_e190.2.1.cls ∈ lw_tbl := qv_nc19
theorem qv_a190 : qs_nargs qx_e190.2.1 3 := ⟨qv_ac19.1, qv_ac19.2, qv_ad18⟩
theorem qv_n191 : Cond.initialized qx_e191.2.1.cls ∈ lw_tbl := qv_nc19
theorem qv_a191 : qs_nargs qx_e191.2.1 1 := ⟨qv_ac19.1, qv_ac19.2, qv_ad12⟩
theorem qv_n192 : Cond.initialized qx_e192.2.1.cls ∈ lw_tbl := qv_nc19
theorem qv_a192 : qs_nargs qx_e192.2.1 1 := ⟨qv_ac19.1, qv_ac19.2, qv_ad12⟩
theorem qv_n193 : Cond.initialized qx_e193.2.1.cls ∈ lw_tbl := qv_nc19
theorem qv_a193 : qs_nargs qx_e193.2.1 2 := ⟨qv_ac19.1, qv_ac19.2, qv_ad5⟩
theorem qv_n194 : Cond.initialized qx_e194.2.1.cls ∈ lw_tbl := qv_nc19
theorem qv_a194 : qs_nargs qx_e194.2.1 4 := ⟨qv_ac19.1, qv_ac19.2, qv_ad25⟩
theorem qv_n195 : Cond.initialized qx_e195.2.1.cls ∈ lw_tbl := qv_nc19
theorem qv_a195 : qs_nargs qx_e195.2.1 3 := ⟨qv_ac19.1, qv_ac19.2, qv_ad18⟩
theorem qv_n196 : Cond.initialized qx_e196.2.1.cls ∈ lw_tbl := qv_nc19
theorem qv_a196 : qs_nargs qx_e196.2.1 2 := ⟨qv_ac19.1, qv_ac19.2, qv_ad20⟩
theorem qv_n197 : Cond.initialized qx_e197.2.1.cls ∈ lw_tbl := qv_nc19
theorem qv_a197 : qs_nargs qx_e197.2.1 3 := ⟨qv_ac19.1, qv_ac19.2, qv_ad18⟩
theorem qv_n198 : Cond.initialized qx_e198.2.1.cls ∈ lw_tbl := qv_nc19
theorem qv_a198 : qs_nargs qx_e198.2.1 4 := ⟨qv_ac19.1, qv_ac19.2, qv_ad27⟩
theorem qv_n199 : Cond.initialized qx_e199.2.1.cls ∈ lw_tbl := qv_nc19
theorem qv_a199 : qs_nargs qx_e199.2.1 2 := ⟨qv_ac19.1, qv_ac19.2, qv_ad5⟩
theorem qv_n200 : Cond.initialized qx_e200.2.1.cls ∈ lw_tbl := qv_nc19
theorem qv_a200 : qs_nargs qx_e200.2.1 1 := ⟨qv_ac19.1, qv_ac19.2, qv_ad12⟩
theorem qv_n201 : Cond.initialized qx_e201.2.1.cls ∈ lw_tbl := qv_nc19
theorem qv_a201 : qs_nargs qx_e201.2.1 1 := ⟨qv_ac19.1, qv_ac19.2, qv_ad13⟩
theorem qv_n202 : Cond.initialized qx_e202.2.1.cls ∈ lw_tbl := qv_nc19
theorem qv_a202 : qs_nargs qx_e202.2.1 2 := ⟨qv_ac19.1, qv_ac19.2, qv_ad20⟩
theorem qv_n203 : Cond.initialized qx_e203.2.1.cls ∈ lw_tbl := qv_nc19
theorem qv_a203 : qs_nargs qx_e203.2.1 3 := ⟨qv_ac19.1, qv_ac19.2, qv_ad18⟩
theorem qv_n204 : Cond.initialized qx_e204.2.1.cls ∈ lw_tbl := qv_nc19
theorem qv_a204 : qs_nargs qx_e204.2.1 3 := ⟨qv_ac19.1, qv_ac19.2, qv_ad18⟩
theorem qv_n205 : Cond.initialized qx_e205.2.1.cls ∈ lw_tbl := qv_nc19
theorem qv_a205 : qs_nargs qx_e205.2.1 4 := ⟨qv_ac19.1, qv_ac19.2, qv_ad39⟩
theorem qv_n206 : Cond.initialized qx_e206.2.1.cls ∈ lw_tbl := qv_nc19
theorem qv_a206 : qs_nargs qx_e206.2.1 2 := ⟨qv_ac19.1, qv_ac19.2, qv_ad20⟩
theorem qv_n207 : Cond.initialized qx_e207.2.1.cls ∈ lw_tbl := qv_nc19
theorem qv_a207 : qs_nargs qx_e207.2.1 2 := ⟨qv_ac19.1, qv_ac19.2, qv_ad20⟩
theorem qv_n208 : Cond.initialized qx_e208.2.1.cls ∈ lw_tbl := qv_nc19
theorem qv_a208 : qs_nargs qx_e208.2.1 2 := ⟨qv_ac19.1, qv_ac19.2, qv_ad5⟩
theorem qv_n209 : Cond.initialized qx_e209.2.1.cls ∈ lw_tbl := qv_nc19
theorem qv_a209 : qs_nargs qx_e209.2.1 3 := ⟨qv_ac19.1, qv_ac19.2, qv_ad18⟩
theorem qv_n210 : Cond.initialized qx_e210.2.1.cls ∈ lw_tbl := qv_nc19
theorem qv_a210 : qs_nargs qx_e210.2.1 2 := ⟨qv_ac19.1, qv_ac19.2, qv_ad5⟩
theorem qv_n211 : Cond.initialized qx_e211.2.1.cls ∈ lw_tbl := qv_nc19
theorem qv_a211 : qs_nargs qx_e211.2.1 2 := ⟨qv_ac19.1, qv_ac19.2, qv_ad5⟩
theorem qv_n212 : Cond.initialized qx_e212.2.1.cls ∈ lw_tbl := qv_nc19
theorem qv_a212 : qs_nargs qx_e212.2.1 1 := ⟨qv_ac19.1, qv_ac19.2, qv_ad13⟩
theorem qv_n213 : Cond.initialized qx_e213.2.1.cls ∈ lw_tbl := qv_nc19
theorem qv_a213 : qs_nargs qx_e213.2.1 2 := ⟨qv_ac19.1, qv_ac19.2, qv_ad5⟩
theorem qv_n214 : Cond.initialized qx_e214.2.1.cls ∈ lw_tbl := qv_nc19
theorem qv_a214 : qs_nargs qx_e214.2.1 0 := ⟨qv_ac19.1, qv_ac19.2, qv_ad3⟩
theorem qv_n215 : Cond.initialized qx_e215.2.1.cls ∈ lw_tbl := qv_nc19
theorem qv_a215 : qs_nargs qx_e215.2.1 0 := ⟨qv_ac19.1, qv_ac19.2, qv_ad3⟩
theorem qv_n216 : Cond.initialized qx_e216.2.1.cls ∈ lw_tbl := qv_nc19
theorem qv_a216 : qs_nargs qx_e216.2.1 0 := ⟨qv_ac19.1, qv_ac19.2, qv_ad3⟩
theorem qv_n217 : Cond.initialized qx_e217.2.1.cls ∈ lw_tbl := qv_nc19
theorem qv_a217 : qs_nargs qx_e217.2.1 0 := ⟨qv_ac19.1, qv_ac19.2, qv_ad3⟩
theorem qv_n218 : Cond.initialized qx_e218.2.1.cls ∈ lw_tbl := qv_nc19
theorem qv_a218 : qs_nargs qx_e218.2.1 0 := ⟨qv_ac19.1, qv_ac19.2, qv_ad3⟩
theorem qv_n219 : Cond.initialized qx_e219.2.1.cls ∈ lw_tbl := qv_nc19
theorem qv_a219 : qs_nargs qx_e219.2.1 0 := ⟨qv_ac19.1, qv_ac19.2, qv_ad3⟩
theorem qv_n220 : Cond.initialized qx_e220.2.1.cls ∈ lw_tbl := qv_nc19
theorem qv_a220 : qs_nargs qx_e220.2.1 0 := ⟨qv_ac19.1, qv_ac19.2, qv_ad3⟩
theorem qv_n221 : Cond.initialized qx_e221.2.1.cls ∈ lw_tbl := qv_nc19
theorem qv_a221 : qs_nargs qx_e221.2.1 0 := ⟨qv_ac19.1, qv_ac19.2, qv_ad3⟩
theorem qv_n222 : Cond.initialized qx_e222.2.1.cls ∈ lw_tbl := qv_nc19
theorem qv_a222 : qs_nargs qx_e222.2.1 1 := ⟨qv_ac19.1, qv_ac19.2, qv_ad12⟩
theorem qv_n223 : Cond.initialized qx_e223.2.1.cls ∈ lw_tbl := qv_nc19
theorem qv_a223 : qs_nargs qx_e223.2.1 1 := ⟨qv_ac19.1, qv_ac19.2, qv_ad13⟩
theorem qv_n224 : Cond.initialized qx_e224.2.1.cls ∈ lw_tbl := qv_nc19
theorem qv_a224 : qs_nargs qx_e224.2.1 3 := ⟨qv_ac19.1, qv_ac19.2, qv_ad33⟩
theorem qv_n225 : Cond.initialized qx_e225.2.1.cls ∈ lw_tbl := qv_nc19
theorem qv_a225 : qs_nargs qx_e225.2.1 1 := ⟨qv_ac19.1, qv_ac19.2, qv_ad34⟩
theorem qv_n226 : Cond.initialized qx_e226.2.1.cls ∈ lw_tbl := qv_nc19
theorem qv_a226 : qs_nargs qx_e226.2.1 2 := ⟨qv_ac19.1, qv_ac19.2, qv_ad22⟩
theorem qv_ad57 : (parseMethodDescriptor "(IIJI)I").map (fun d => d.parameters.length) = some 4 := by decide +kernel
theorem qv_n227 : Cond.initialized qx_e227.2.1.cls ∈ lw_tbl := qv_nc19
theorem qv_a227 : qs_nargs qx_e227.2.1 4 := ⟨qv_ac19.1, qv_ac19.2, qv_ad57⟩
theorem qv_ad58 : (parseMethodDescriptor "(IIIIJI)I").map (fun d => d.parameters.length) = some 6 := by decide +kernel
theorem qv_n228 : Cond.initialized qx_e228.2.1.cls ∈ lw_tbl := qv_nc19
theorem qv_a228 : qs_nargs qx_e228.2.1 6 := ⟨qv_ac19.1, qv_ac19.2, qv_ad58⟩
theorem qv_n229 : Cond.initialized qx_e229.2.1.cls ∈ lw_tbl := qv_nc19
theorem qv_a229 : qs_nargs qx_e229.2.1 3 := ⟨qv_ac19.1, qv_ac19.2, qv_ad38⟩
theorem qv_n230 : Cond.initialized qx_e230.2.1.cls ∈ lw_tbl := qv_nc19
theorem qv_a230 : qs_nargs qx_e230.2.1 1 := ⟨qv_ac19.1, qv_ac19.2, qv_ad12⟩
theorem qv_n231 : Cond.initialized qx_e231.2.1.cls ∈ lw_tbl := qv_nc19
theorem qv_a231 : qs_nargs qx_e231.2.1 2 := ⟨qv_ac19.1, qv_ac19.2, qv_ad5⟩
theorem qv_n232 : Cond.initialized qx_e232.2.1.cls ∈ lw_tbl := qv_nc19
theorem qv_a232 : qs_nargs qx_e232.2.1 3 := ⟨qv_ac19.1, qv_ac19.2, qv_ad19⟩
theorem qv_n233 : Cond.initialized qx_e233.2.1.cls ∈ lw_tbl := qv_nc19
theorem qv_a233 : qs_nargs qx_e233.2.1 3 := ⟨qv_ac19.1, qv_ac19.2, qv_ad40⟩
theorem qv_n234 : Cond.initialized qx_e234.2.1.cls ∈ lw_tbl := qv_nc19
theorem qv_a234 : qs_nargs qx_e234.2.1 2 := ⟨qv_ac19.1, qv_ac19.2, qv_ad22⟩
theorem qv_n235 : Cond.initialized qx_e235.2.1.cls ∈ lw_tbl := qv_nc19
theorem qv_a235 : qs_nargs qx_e235.2.1 1 := ⟨qv_ac19.1, qv_ac19.2, qv_ad11⟩
theorem qv_n236 : Cond.initialized qx_e236.2.1.cls ∈ lw_tbl := qv_nc19
theorem qv_a236 : qs_nargs qx_e236.2.1 1 := ⟨qv_ac19.1, qv_ac19.2, qv_ad13⟩
theorem qv_n237 : Cond.initialized qx_e237.2.1.cls ∈ lw_tbl := qv_nc19
theorem qv_a237 : qs_nargs qx_e237.2.1 1 := ⟨qv_ac19.1, qv_ac19.2, qv_ad43⟩
theorem qv_n238 : Cond.initialized qx_e238.2.1.cls ∈ lw_tbl := qv_nc19
theorem qv_a238 : qs_nargs qx_e238.2.1 3 := ⟨qv_ac19.1, qv_ac19.2, qv_ad44⟩
theorem qv_n239 : Cond.initialized qx_e239.2.1.cls ∈ lw_tbl := qv_nc19
theorem qv_a239 : qs_nargs qx_e239.2.1 3 := ⟨qv_ac19.1, qv_ac19.2, qv_ad44⟩
theorem qv_n240 : Cond.initialized qx_e240.2.1.cls ∈ lw_tbl := qv_nc19
theorem qv_a240 : qs_nargs qx_e240.2.1 1 := ⟨qv_ac19.1, qv_ac19.2, qv_ad12⟩
theorem qv_n241 : Cond.initialized qx_e241.2.1.cls ∈ lw_tbl := qv_nc19
theorem qv_a241 : qs_nargs qx_e241.2.1 2 := ⟨qv_ac19.1, qv_ac19.2, qv_ad5⟩
theorem qv_n242 : Cond.initialized qx_e242.2.1.cls ∈ lw_tbl := qv_nc19
theorem qv_a242 : qs_nargs qx_e242.2.1 3 := ⟨qv_ac19.1, qv_ac19.2, qv_ad38⟩
theorem qv_n243 : Cond.initialized qx_e243.2.1.cls ∈ lw_tbl := qv_nc19
theorem qv_a243 : qs_nargs qx_e243.2.1 4 := ⟨qv_ac19.1, qv_ac19.2, qv_ad39⟩
theorem qv_n244 : Cond.initialized qx_e244.2.1.cls ∈ lw_tbl := qv_nc19
theorem qv_a244 : qs_nargs qx_e244.2.1 3 := ⟨qv_ac19.1, qv_ac19.2, qv_ad19⟩
theorem qv_n245 : Cond.initialized qx_e245.2.1.cls ∈ lw_tbl := qv_nc19
theorem qv_a245 : qs_nargs qx_e245.2.1 4 := ⟨qv_ac19.1, qv_ac19.2, qv_ad27⟩
theorem qv_ad59 : (parseMethodDescriptor "(IJIZ)V").map (fun d => d.parameters.length) = some 4 := by decide +kernel
theorem qv_n246 : Cond.initialized qx_e246.2.1.cls ∈ lw_tbl := qv_nc19
theorem qv_a246 : qs_nargs qx_e246.2.1 4 := ⟨qv_ac19.1, qv_ac19.2, qv_ad59⟩
theorem qv_ad60 : (parseMethodDescriptor "(IIIZ)V").map (fun d => d.parameters.length) = some 4 := by decide +kernel
theorem qv_n247 : Cond.initialized qx_e247.2.1.cls ∈ lw_tbl := qv_nc19
theorem qv_a247 : qs_nargs qx_e247.2.1 4 := ⟨qv_ac19.1, qv_ac19.2, qv_ad60⟩
theorem qv_n248 : Cond.initialized qx_e248.2.1.cls ∈ lw_tbl := qv_nc19
theorem qv_a248 : qs_nargs qx_e248.2.1 2 := ⟨qv_ac19.1, qv_ac19.2, qv_ad49⟩
theorem qv_ad61 : (parseMethodDescriptor "(IIJI)Z").map (fun d => d.parameters.length) = some 4 := by decide +kernel
theorem qv_n249 : Cond.initialized qx_e249.2.1.cls ∈ lw_tbl := qv_nc19
theorem qv_a249 : qs_nargs qx_e249.2.1 4 := ⟨qv_ac19.1, qv_ac19.2, qv_ad61⟩
theorem qv_n250 : Cond.initialized qx_e250.2.1.cls ∈ lw_tbl := qv_nc19
theorem qv_a250 : qs_nargs qx_e250.2.1 1 := ⟨qv_ac19.1, qv_ac19.2, qv_ad13⟩
theorem qv_n251 : Cond.initialized qx_e251.2.1.cls ∈ lw_tbl := qv_nc19
theorem qv_a251 : qs_nargs qx_e251.2.1 0 := ⟨qv_ac19.1, qv_ac19.2, qv_ad48⟩
theorem qv_n252 : Cond.initialized qx_e252.2.1.cls ∈ lw_tbl := qv_nc19
theorem qv_a252 : qs_nargs qx_e252.2.1 2 := ⟨qv_ac19.1, qv_ac19.2, qv_ad49⟩
theorem qv_n253 : Cond.initialized qx_e253.2.1.cls ∈ lw_tbl := qv_nc19
theorem qv_a253 : qs_nargs qx_e253.2.1 1 := ⟨qv_ac19.1, qv_ac19.2, qv_ad29⟩
theorem qv_n254 : Cond.initialized qx_e254.2.1.cls ∈ lw_tbl := qv_nc19
theorem qv_a254 : qs_nargs qx_e254.2.1 3 := ⟨qv_ac19.1, qv_ac19.2, qv_ad18⟩
theorem qv_n255 : Cond.initialized qx_e255.2.1.cls ∈ lw_tbl := qv_nc19
theorem qv_a255 : qs_nargs qx_e255.2.1 3 := ⟨qv_ac19.1, qv_ac19.2, qv_ad18⟩
theorem qv_n256 : Cond.initialized qx_e256.2.1.cls ∈ lw_tbl := qv_nc19
theorem qv_a256 : qs_nargs qx_e256.2.1 2 := ⟨qv_ac19.1, qv_ac19.2, qv_ad5⟩
theorem qv_n257 : Cond.initialized qx_e257.2.1.cls ∈ lw_tbl := qv_nc19
theorem qv_a257 : qs_nargs qx_e257.2.1 1 := ⟨qv_ac19.1, qv_ac19.2, qv_ad11⟩
theorem qv_n258 : Cond.initialized qx_e258.2.1.cls ∈ lw_tbl := qv_nc19
theorem qv_a258 : qs_nargs qx_e258.2.1 2 := ⟨qv_ac19.1, qv_ac19.2, qv_ad5⟩
theorem qv_n259 : Cond.initialized qx_e259.2.1.cls ∈ lw_tbl := qv_nc19
theorem qv_a259 : qs_nargs qx_e259.2.1 2 := ⟨qv_ac19.1, qv_ac19.2, qv_ad5⟩
theorem qv_n260 : Cond.initialized qx_e260.2.1.cls ∈ lw_tbl := qv_nc19
theorem qv_a260 : qs_nargs qx_e260.2.1 2 := ⟨qv_ac19.1, qv_ac19.2, qv_ad5⟩
theorem qv_n261 : Cond.initialized qx_e261.2.1.cls ∈ lw_tbl := qv_nc19
theorem qv_a261 : qs_nargs qx_e261.2.1 1 := ⟨qv_ac19.1, qv_ac19.2, qv_ad13⟩
theorem qv_n262 : Cond.initialized qx_e262.2.1.cls ∈ lw_tbl := qv_nc19
theorem qv_a262 : qs_nargs qx_e262.2.1 2 := ⟨qv_ac19.1, qv_ac19.2, qv_ad5⟩
theorem qv_n263 : Cond.initialized qx_e263.2.1.cls ∈ lw_tbl := qv_nc19
theorem qv_a263 : qs_nargs qx_e263.2.1 3 := ⟨qv_ac19.1, qv_ac19.2, qv_ad18⟩
theorem qv_n264 : Cond.initialized qx_e264.2.1.cls ∈ lw_tbl := qv_nc19
theorem qv_a264 : qs_nargs qx_e264.2.1 3 := ⟨qv_ac19.1, qv_ac19.2, qv_ad53⟩
theorem qv_n265 : Cond.initialized qx_e265.2.1.cls ∈ lw_tbl := qv_nc19
theorem qv_a265 : qs_nargs qx_e265.2.1 2 := ⟨qv_ac19.1, qv_ac19.2, qv_ad5⟩
theorem qv_n266 : Cond.initialized qx_e266.2.1.cls ∈ lw_tbl := qv_nc19
theorem qv_a266 : qs_nargs qx_e266.2.1 2 := ⟨qv_ac19.1, qv_ac19.2, qv_ad54⟩
theorem qv_n267 : Cond.initialized qx_e267.2.1.cls ∈ lw_tbl := qv_nc19
theorem qv_a267 : qs_nargs qx_e267.2.1 2 := ⟨qv_ac19.1, qv_ac19.2, qv_ad21⟩
theorem qv_n268 : Cond.initialized qx_e268.2.1.cls ∈ lw_tbl := qv_nc19
theorem qv_a268 : qs_nargs qx_e268.2.1 5 := ⟨qv_ac19.1, qv_ac19.2, qv_ad24⟩
theorem qv_n269 : Cond.initialized qx_e269.2.1.cls ∈ lw_tbl := qv_nc19
theorem qv_a269 : qs_nargs qx_e269.2.1 2 := ⟨qv_ac19.1, qv_ac19.2, qv_ad5⟩
theorem qv_n270 : Cond.initialized qx_e270.2.1.cls ∈ lw_tbl := qv_nc19
theorem qv_a270 : qs_nargs qx_e270.2.1 1 := ⟨qv_ac19.1, qv_ac19.2, qv_ad13⟩
theorem qv_n271 : Cond.initialized qx_e271.2.1.cls ∈ lw_tbl := qv_nc19
theorem qv_a271 : qs_nargs qx_e271.2.1 1 := ⟨qv_ac19.1, qv_ac19.2, qv_ad13⟩
def qv_V (o i k n m c : Nat) : Prop := 0 < k ∧ ∃ x, qm_ent k = some x ∧ qs_nargs x.2.1 n ∧ qs_link o i x.2.1 (decide (m = 1)) ∧ Cond.instanceMethod x.2.1 ∈ lw_tbl ∧ Cond.selects x.2.1.cls x.2.1 x.2.1 ∈ lw_tbl ∧ Cond.initialized x.2.1.cls ∈ lw_tbl ∧ ((Value.ref c = .ref 13 ∧ x.2.1.cls = "java/lang/String") ∨ ∃ ci N, Value.ref c = .ref ci ∧ ci < 13 ∧ qx_cl[ci]? = some (x.2.1.cls, qx_T ci, N))
def qv_U (o i k n m : Nat) : Prop := 0 < k ∧ ∃ x, qm_ent k = some x ∧ qs_nargs x.2.1 n ∧ qs_link o i x.2.1 (decide (m = 3)) ∧ Cond.static x.2.1 ∈ lw_tbl ∧ Cond.initialized x.2.1.cls ∈ lw_tbl
def qv_N (o i k n m : Nat) : Prop := 0 < k ∧ ∃ x, qm_ent k = some x ∧ qs_nargs x.2.1 n ∧ qs_link o i x.2.1 (decide (m = 5)) ∧ Cond.instanceMethod x.2.1 ∈ lw_tbl ∧ Cond.initialized x.2.1.cls ∈ lw_tbl ∧ x.2.1.name = "<init>" ∧ x.2.2.2.2.1 = none
set_option maxRecDepth 100000 in
theorem qv_v0 : qv_V 0 13 38 3 0 0 := ⟨by decide, qx_e38, qv_e38, qv_a38, show Cond.methodLink _ _ _ ∈ lw_tbl from qv_in3 (List.mem_of_getElem? (i := 109) rfl), qv_i38, qv_s38, qv_n38, Or.inr ⟨0, 16, rfl, by decide, rfl⟩⟩
set_option maxRecDepth 100000 in
theorem qv_v1 : qv_V 0 17 174 3 0 12 := ⟨by decide, qx_e174, qv_e174, qv_a174, show Cond.methodLink _ _ _ ∈ lw_tbl from qv_in6 (List.mem_of_getElem? (i := 183) rfl), qv_i174, qv_s174, qv_n174, Or.inr ⟨12, 63, rfl, by decide, rfl⟩⟩
set_option maxRecDepth 100000 in
theorem qv_v2 : qv_V 0 18 43 3 0 0 := ⟨by decide, qx_e43, qv_e43, qv_a43, show Cond.methodLink _ _ _ ∈ lw_tbl from qv_in3 (List.mem_of_getElem? (i := 128) rfl), qv_i43, qv_s43, qv_n43, Or.inr ⟨0, 16, rfl, by decide, rfl⟩⟩
set_option maxRecDepth 100000 in
theorem qv_v3 : qv_V 0 21 177 3 0 12 := ⟨by decide, qx_e177, qv_e177, qv_a177, show Cond.methodLink _ _ _ ∈ lw_tbl from qv_in6 (List.mem_of_getElem? (i := 195) rfl), qv_i177, qv_s177, qv_n177, Or.inr ⟨12, 63, rfl, by decide, rfl⟩⟩
set_option maxRecDepth 100000 in
theorem qv_v4 : qv_V 0 22 49 2 0 0 := ⟨by decide, qx_e49, qv_e49, qv_a49, show Cond.methodLink _ _ _ ∈ lw_tbl from qv_in3 (List.mem_of_getElem? (i := 154) rfl), qv_i49, qv_s49, qv_n49, Or.inr ⟨0, 16, rfl, by decide, rfl⟩⟩
set_option maxRecDepth 100000 in
theorem qv_v5 : qv_V 0 26 179 2 0 12 := ⟨by decide, qx_e179, qv_e179, qv_a179, show Cond.methodLink _ _ _ ∈ lw_tbl from qv_in6 (List.mem_of_getElem? (i := 205) rfl), qv_i179, qv_s179, qv_n179, Or.inr ⟨12, 63, rfl, by decide, rfl⟩⟩
set_option maxRecDepth 100000 in
theorem qv_v6 : qv_V 0 27 51 2 0 0 := ⟨by decide, qx_e51, qv_e51, qv_a51, show Cond.methodLink _ _ _ ∈ lw_tbl from qv_in3 (List.mem_of_getElem? (i := 162) rfl), qv_i51, qv_s51, qv_n51, Or.inr ⟨0, 16, rfl, by decide, rfl⟩⟩
set_option maxRecDepth 100000 in
theorem qv_v7 : qv_V 0 30 182 2 0 12 := ⟨by decide, qx_e182, qv_e182, qv_a182, show Cond.methodLink _ _ _ ∈ lw_tbl from qv_in6 (List.mem_of_getElem? (i := 217) rfl), qv_i182, qv_s182, qv_n182, Or.inr ⟨12, 63, rfl, by decide, rfl⟩⟩
set_option maxRecDepth 100000 in
theorem qv_v8 : qv_V 0 31 56 2 0 0 := ⟨by decide, qx_e56, qv_e56, qv_a56, show Cond.methodLink _ _ _ ∈ lw_tbl from qv_in3 (List.mem_of_getElem? (i := 188) rfl), qv_i56, qv_s56, qv_n56, Or.inr ⟨0, 16, rfl, by decide, rfl⟩⟩
set_option maxRecDepth 100000 in
theorem qv_v9 : qv_V 0 34 184 2 0 12 := ⟨by decide, qx_e184, qv_e184, qv_a184, show Cond.methodLink _ _ _ ∈ lw_tbl from qv_in6 (List.mem_of_getElem? (i := 225) rfl), qv_i184, qv_s184, qv_n184, Or.inr ⟨12, 63, rfl, by decide, rfl⟩⟩
set_option maxRecDepth 100000 in
theorem qv_v10 : qv_V 0 35 59 2 0 0 := ⟨by decide, qx_e59, qv_e59, qv_a59, show Cond.methodLink _ _ _ ∈ lw_tbl from qv_in3 (List.mem_of_getElem? (i := 202) rfl), qv_i59, qv_s59, qv_n59, Or.inr ⟨0, 16, rfl, by decide, rfl⟩⟩
set_option maxRecDepth 100000 in
theorem qv_v11 : qv_V 0 38 186 2 0 12 := ⟨by decide, qx_e186, qv_e186, qv_a186, show Cond.methodLink _ _ _ ∈ lw_tbl from qv_in6 (List.mem_of_getElem? (i := 233) rfl), qv_i186, qv_s186, qv_n186, Or.inr ⟨12, 63, rfl, by decide, rfl⟩⟩
set_option maxRecDepth 100000 in
theorem qv_v12 : qv_V 0 39 60 3 0 0 := ⟨by decide, qx_e60, qv_e60, qv_a60, show Cond.methodLink _ _ _ ∈ lw_tbl from qv_in3 (List.mem_of_getElem? (i := 206) rfl), qv_i60, qv_s60, qv_n60, Or.inr ⟨0, 16, rfl, by decide, rfl⟩⟩
set_option maxRecDepth 100000 in
theorem qv_v13 : qv_V 0 42 190 3 0 12 := ⟨by decide, qx_e190, qv_e190, qv_a190, show Cond.methodLink _ _ _ ∈ lw_tbl from qv_in7 (List.mem_of_getElem? (i := 9) rfl), qv_i190, qv_s190, qv_n190, Or.inr ⟨12, 63, rfl, by decide, rfl⟩⟩
set_option maxRecDepth 100000 in
theorem qv_v14 : qv_V 0 43 64 2 0 0 := ⟨by decide, qx_e64, qv_e64, qv_a64, show Cond.methodLink _ _ _ ∈ lw_tbl from qv_in3 (List.mem_of_getElem? (i := 221) rfl), qv_i64, qv_s64, qv_n64, Or.inr ⟨0, 16, rfl, by decide, rfl⟩⟩
set_option maxRecDepth 100000 in
theorem qv_v15 : qv_V 0 46 193 2 0 12 := ⟨by decide, qx_e193, qv_e193, qv_a193, show Cond.methodLink _ _ _ ∈ lw_tbl from qv_in7 (List.mem_of_getElem? (i := 22) rfl), qv_i193, qv_s193, qv_n193, Or.inr ⟨12, 63, rfl, by decide, rfl⟩⟩
set_option maxRecDepth 100000 in
theorem qv_v16 : qv_V 0 47 65 4 0 0 := ⟨by decide, qx_e65, qv_e65, qv_a65, show Cond.methodLink _ _ _ ∈ lw_tbl from qv_in3 (List.mem_of_getElem? (i := 225) rfl), qv_i65, qv_s65, qv_n65, Or.inr ⟨0, 16, rfl, by decide, rfl⟩⟩
set_option maxRecDepth 100000 in
theorem qv_v17 : qv_V 0 51 194 4 0 12 := ⟨by decide, qx_e194, qv_e194, qv_a194, show Cond.methodLink _ _ _ ∈ lw_tbl from qv_in7 (List.mem_of_getElem? (i := 27) rfl), qv_i194, qv_s194, qv_n194, Or.inr ⟨12, 63, rfl, by decide, rfl⟩⟩
set_option maxRecDepth 100000 in
theorem qv_v18 : qv_V 0 54 69 4 0 0 := ⟨by decide, qx_e69, qv_e69, qv_a69, show Cond.methodLink _ _ _ ∈ lw_tbl from qv_in4 (List.mem_of_getElem? (i := 2) rfl), qv_i69, qv_s69, qv_n69, Or.inr ⟨0, 16, rfl, by decide, rfl⟩⟩
set_option maxRecDepth 100000 in
theorem qv_v19 : qv_V 0 58 198 4 0 12 := ⟨by decide, qx_e198, qv_e198, qv_a198, show Cond.methodLink _ _ _ ∈ lw_tbl from qv_in7 (List.mem_of_getElem? (i := 43) rfl), qv_i198, qv_s198, qv_n198, Or.inr ⟨12, 63, rfl, by decide, rfl⟩⟩
set_option maxRecDepth 100000 in
theorem qv_v20 : qv_V 0 59 72 2 0 0 := ⟨by decide, qx_e72, qv_e72, qv_a72, show Cond.methodLink _ _ _ ∈ lw_tbl from qv_in4 (List.mem_of_getElem? (i := 13) rfl), qv_i72, qv_s72, qv_n72, Or.inr ⟨0, 16, rfl, by decide, rfl⟩⟩
set_option maxRecDepth 100000 in
theorem qv_v21 : qv_V 0 62 199 2 0 12 := ⟨by decide, qx_e199, qv_e199, qv_a199, show Cond.methodLink _ _ _ ∈ lw_tbl from qv_in7 (List.mem_of_getElem? (i := 50) rfl), qv_i199, qv_s199, qv_n199, Or.inr ⟨12, 63, rfl, by decide, rfl⟩⟩
set_option maxRecDepth 100000 in
theorem qv_v22 : qv_V 0 63 75 3 0 0 := ⟨by decide, qx_e75, qv_e75, qv_a75, show Cond.methodLink _ _ _ ∈ lw_tbl from qv_in4 (List.mem_of_getElem? (i := 27) rfl), qv_i75, qv_s75, qv_n75, Or.inr ⟨0, 16, rfl, by decide, rfl⟩⟩
set_option maxRecDepth 100000 in
theorem qv_v23 : qv_V 0 66 203 3 0 12 := ⟨by decide, qx_e203, qv_e203, qv_a203, show Cond.methodLink _ _ _ ∈ lw_tbl from qv_in7 (List.mem_of_getElem? (i := 66) rfl), qv_i203, qv_s203, qv_n203, Or.inr ⟨12, 63, rfl, by decide, rfl⟩⟩
set_option maxRecDepth 100000 in
theorem qv_v24 : qv_V 0 67 76 3 0 0 := ⟨by decide, qx_e76, qv_e76, qv_a76, show Cond.methodLink _ _ _ ∈ lw_tbl from qv_in4 (List.mem_of_getElem? (i := 31) rfl), qv_i76, qv_s76, qv_n76, Or.inr ⟨0, 16, rfl, by decide, rfl⟩⟩
set_option maxRecDepth 100000 in
theorem qv_v25 : qv_V 0 70 204 3 0 12 := ⟨by decide, qx_e204, qv_e204, qv_a204, show Cond.methodLink _ _ _ ∈ lw_tbl from qv_in7 (List.mem_of_getElem? (i := 70) rfl), qv_i204, qv_s204, qv_n204, Or.inr ⟨12, 63, rfl, by decide, rfl⟩⟩
set_option maxRecDepth 100000 in
theorem qv_v26 : qv_V 0 71 79 2 0 0 := ⟨by decide, qx_e79, qv_e79, qv_a79, show Cond.methodLink _ _ _ ∈ lw_tbl from qv_in4 (List.mem_of_getElem? (i := 43) rfl), qv_i79, qv_s79, qv_n79, Or.inr ⟨0, 16, rfl, by decide, rfl⟩⟩
set_option maxRecDepth 100000 in
theorem qv_v27 : qv_V 0 74 208 2 0 12 := ⟨by decide, qx_e208, qv_e208, qv_a208, show Cond.methodLink _ _ _ ∈ lw_tbl from qv_in7 (List.mem_of_getElem? (i := 86) rfl), qv_i208, qv_s208, qv_n208, Or.inr ⟨12, 63, rfl, by decide, rfl⟩⟩
set_option maxRecDepth 100000 in
theorem qv_v28 : qv_V 0 75 81 2 0 0 := ⟨by decide, qx_e81, qv_e81, qv_a81, show Cond.methodLink _ _ _ ∈ lw_tbl from qv_in4 (List.mem_of_getElem? (i := 53) rfl), qv_i81, qv_s81, qv_n81, Or.inr ⟨0, 16, rfl, by decide, rfl⟩⟩
set_option maxRecDepth 100000 in
theorem qv_v29 : qv_V 0 78 210 2 0 12 := ⟨by decide, qx_e210, qv_e210, qv_a210, show Cond.methodLink _ _ _ ∈ lw_tbl from qv_in7 (List.mem_of_getElem? (i := 94) rfl), qv_i210, qv_s210, qv_n210, Or.inr ⟨12, 63, rfl, by decide, rfl⟩⟩
set_option maxRecDepth 100000 in
theorem qv_v30 : qv_V 0 79 84 2 0 0 := ⟨by decide, qx_e84, qv_e84, qv_a84, show Cond.methodLink _ _ _ ∈ lw_tbl from qv_in4 (List.mem_of_getElem? (i := 64) rfl), qv_i84, qv_s84, qv_n84, Or.inr ⟨0, 16, rfl, by decide, rfl⟩⟩
set_option maxRecDepth 100000 in
theorem qv_v31 : qv_V 0 82 211 2 0 12 := ⟨by decide, qx_e211, qv_e211, qv_a211, show Cond.methodLink _ _ _ ∈ lw_tbl from qv_in7 (List.mem_of_getElem? (i := 98) rfl), qv_i211, qv_s211, qv_n211, Or.inr ⟨12, 63, rfl, by decide, rfl⟩⟩
set_option maxRecDepth 100000 in
theorem qv_v32 : qv_V 0 83 85 1 0 0 := ⟨by decide, qx_e85, qv_e85, qv_a85, show Cond.methodLink _ _ _ ∈ lw_tbl from qv_in4 (List.mem_of_getElem? (i := 68) rfl), qv_i85, qv_s85, qv_n85, Or.inr ⟨0, 16, rfl, by decide, rfl⟩⟩
set_option maxRecDepth 100000 in
theorem qv_v33 : qv_V 0 87 212 1 0 12 := ⟨by decide, qx_e212, qv_e212, qv_a212, show Cond.methodLink _ _ _ ∈ lw_tbl from qv_in7 (List.mem_of_getElem? (i := 103) rfl), qv_i212, qv_s212, qv_n212, Or.inr ⟨12, 63, rfl, by decide, rfl⟩⟩
set_option maxRecDepth 100000 in
theorem qv_v34 : qv_V 0 88 87 3 0 0 := ⟨by decide, qx_e87, qv_e87, qv_a87, show Cond.methodLink _ _ _ ∈ lw_tbl from qv_in4 (List.mem_of_getElem? (i := 77) rfl), qv_i87, qv_s87, qv_n87, Or.inr ⟨0, 16, rfl, by decide, rfl⟩⟩
set_option maxRecDepth 100000 in
theorem qv_v35 : qv_V 0 92 224 3 0 12 := ⟨by decide, qx_e224, qv_e224, qv_a224, show Cond.methodLink _ _ _ ∈ lw_tbl from qv_in7 (List.mem_of_getElem? (i := 150) rfl), qv_i224, qv_s224, qv_n224, Or.inr ⟨12, 63, rfl, by decide, rfl⟩⟩
set_option maxRecDepth 100000 in
theorem qv_v36 : qv_V 0 93 99 3 0 0 := ⟨by decide, qx_e99, qv_e99, qv_a99, show Cond.methodLink _ _ _ ∈ lw_tbl from qv_in4 (List.mem_of_getElem? (i := 137) rfl), qv_i99, qv_s99, qv_n99, Or.inr ⟨0, 16, rfl, by decide, rfl⟩⟩
set_option maxRecDepth 100000 in
theorem qv_v37 : qv_V 0 97 229 3 0 12 := ⟨by decide, qx_e229, qv_e229, qv_a229, show Cond.methodLink _ _ _ ∈ lw_tbl from qv_in7 (List.mem_of_getElem? (i := 170) rfl), qv_i229, qv_s229, qv_n229, Or.inr ⟨12, 63, rfl, by decide, rfl⟩⟩
set_option maxRecDepth 100000 in
theorem qv_v38 : qv_V 0 98 105 2 0 0 := ⟨by decide, qx_e105, qv_e105, qv_a105, show Cond.methodLink _ _ _ ∈ lw_tbl from qv_in4 (List.mem_of_getElem? (i := 161) rfl), qv_i105, qv_s105, qv_n105, Or.inr ⟨0, 16, rfl, by decide, rfl⟩⟩
set_option maxRecDepth 100000 in
theorem qv_v39 : qv_V 0 101 231 2 0 12 := ⟨by decide, qx_e231, qv_e231, qv_a231, show Cond.methodLink _ _ _ ∈ lw_tbl from qv_in7 (List.mem_of_getElem? (i := 178) rfl), qv_i231, qv_s231, qv_n231, Or.inr ⟨12, 63, rfl, by decide, rfl⟩⟩
set_option maxRecDepth 100000 in
theorem qv_v40 : qv_V 0 102 108 3 0 0 := ⟨by decide, qx_e108, qv_e108, qv_a108, show Cond.methodLink _ _ _ ∈ lw_tbl from qv_in4 (List.mem_of_getElem? (i := 175) rfl), qv_i108, qv_s108, qv_n108, Or.inr ⟨0, 16, rfl, by decide, rfl⟩⟩
set_option maxRecDepth 100000 in
theorem qv_v41 : qv_V 0 106 233 3 0 12 := ⟨by decide, qx_e233, qv_e233, qv_a233, show Cond.methodLink _ _ _ ∈ lw_tbl from qv_in7 (List.mem_of_getElem? (i := 186) rfl), qv_i233, qv_s233, qv_n233, Or.inr ⟨12, 63, rfl, by decide, rfl⟩⟩
set_option maxRecDepth 100000 in
theorem qv_v42 : qv_V 0 107 117 3 0 0 := ⟨by decide, qx_e117, qv_e117, qv_a117, show Cond.methodLink _ _ _ ∈ lw_tbl from qv_in4 (List.mem_of_getElem? (i := 216) rfl), qv_i117, qv_s117, qv_n117, Or.inr ⟨0, 16, rfl, by decide, rfl⟩⟩
set_option maxRecDepth 100000 in
theorem qv_v43 : qv_V 0 111 238 3 0 12 := ⟨by decide, qx_e238, qv_e238, qv_a238, show Cond.methodLink _ _ _ ∈ lw_tbl from qv_in7 (List.mem_of_getElem? (i := 206) rfl), qv_i238, qv_s238, qv_n238, Or.inr ⟨12, 63, rfl, by decide, rfl⟩⟩
set_option maxRecDepth 100000 in
theorem qv_v44 : qv_V 0 112 120 3 0 0 := ⟨by decide, qx_e120, qv_e120, qv_a120, show Cond.methodLink _ _ _ ∈ lw_tbl from qv_in4 (List.mem_of_getElem? (i := 230) rfl), qv_i120, qv_s120, qv_n120, Or.inr ⟨0, 16, rfl, by decide, rfl⟩⟩
set_option maxRecDepth 100000 in
theorem qv_v45 : qv_V 0 115 239 3 0 12 := ⟨by decide, qx_e239, qv_e239, qv_a239, show Cond.methodLink _ _ _ ∈ lw_tbl from qv_in7 (List.mem_of_getElem? (i := 210) rfl), qv_i239, qv_s239, qv_n239, Or.inr ⟨12, 63, rfl, by decide, rfl⟩⟩
set_option maxRecDepth 100000 in
theorem qv_v46 : qv_V 0 116 126 2 0 0 := ⟨by decide, qx_e126, qv_e126, qv_a126, show Cond.methodLink _ _ _ ∈ lw_tbl from qv_in5 (List.mem_of_getElem? (i := 22) rfl), qv_i126, qv_s126, qv_n126, Or.inr ⟨0, 16, rfl, by decide, rfl⟩⟩
set_option maxRecDepth 100000 in
theorem qv_v47 : qv_V 0 119 241 2 0 12 := ⟨by decide, qx_e241, qv_e241, qv_a241, show Cond.methodLink _ _ _ ∈ lw_tbl from qv_in7 (List.mem_of_getElem? (i := 218) rfl), qv_i241, qv_s241, qv_n241, Or.inr ⟨12, 63, rfl, by decide, rfl⟩⟩
set_option maxRecDepth 100000 in
theorem qv_v48 : qv_V 0 120 127 3 0 0 := ⟨by decide, qx_e127, qv_e127, qv_a127, show Cond.methodLink _ _ _ ∈ lw_tbl from qv_in5 (List.mem_of_getElem? (i := 26) rfl), qv_i127, qv_s127, qv_n127, Or.inr ⟨0, 16, rfl, by decide, rfl⟩⟩
set_option maxRecDepth 100000 in
theorem qv_v49 : qv_V 0 123 242 3 0 12 := ⟨by decide, qx_e242, qv_e242, qv_a242, show Cond.methodLink _ _ _ ∈ lw_tbl from qv_in7 (List.mem_of_getElem? (i := 223) rfl), qv_i242, qv_s242, qv_n242, Or.inr ⟨12, 63, rfl, by decide, rfl⟩⟩
set_option maxRecDepth 100000 in
theorem qv_v50 : qv_V 0 124 133 4 0 0 := ⟨by decide, qx_e133, qv_e133, qv_a133, show Cond.methodLink _ _ _ ∈ lw_tbl from qv_in5 (List.mem_of_getElem? (i := 52) rfl), qv_i133, qv_s133, qv_n133, Or.inr ⟨0, 16, rfl, by decide, rfl⟩⟩
set_option maxRecDepth 100000 in
theorem qv_v51 : qv_V 0 127 245 4 0 12 := ⟨by decide, qx_e245, qv_e245, qv_a245, show Cond.methodLink _ _ _ ∈ lw_tbl from qv_in7 (List.mem_of_getElem? (i := 237) rfl), qv_i245, qv_s245, qv_n245, Or.inr ⟨12, 63, rfl, by decide, rfl⟩⟩
set_option maxRecDepth 100000 in
theorem qv_v52 : qv_V 0 128 138 1 0 0 := ⟨by decide, qx_e138, qv_e138, qv_a138, show Cond.methodLink _ _ _ ∈ lw_tbl from qv_in5 (List.mem_of_getElem? (i := 78) rfl), qv_i138, qv_s138, qv_n138, Or.inr ⟨0, 16, rfl, by decide, rfl⟩⟩
set_option maxRecDepth 100000 in
theorem qv_v53 : qv_V 0 131 250 1 0 12 := ⟨by decide, qx_e250, qv_e250, qv_a250, show Cond.methodLink _ _ _ ∈ lw_tbl from qv_in8 (List.mem_of_getElem? (i := 17) rfl), qv_i250, qv_s250, qv_n250, Or.inr ⟨12, 63, rfl, by decide, rfl⟩⟩
set_option maxRecDepth 100000 in
theorem qv_v54 : qv_V 0 132 139 0 0 0 := ⟨by decide, qx_e139, qv_e139, qv_a139, show Cond.methodLink _ _ _ ∈ lw_tbl from qv_in5 (List.mem_of_getElem? (i := 82) rfl), qv_i139, qv_s139, qv_n139, Or.inr ⟨0, 16, rfl, by decide, rfl⟩⟩
set_option maxRecDepth 100000 in
theorem qv_v55 : qv_V 0 136 251 0 0 12 := ⟨by decide, qx_e251, qv_e251, qv_a251, show Cond.methodLink _ _ _ ∈ lw_tbl from qv_in8 (List.mem_of_getElem? (i := 21) rfl), qv_i251, qv_s251, qv_n251, Or.inr ⟨12, 63, rfl, by decide, rfl⟩⟩
set_option maxRecDepth 100000 in
theorem qv_v56 : qv_V 0 137 140 2 0 0 := ⟨by decide, qx_e140, qv_e140, qv_a140, show Cond.methodLink _ _ _ ∈ lw_tbl from qv_in5 (List.mem_of_getElem? (i := 86) rfl), qv_i140, qv_s140, qv_n140, Or.inr ⟨0, 16, rfl, by decide, rfl⟩⟩
set_option maxRecDepth 100000 in
theorem qv_v57 : qv_V 0 141 252 2 0 12 := ⟨by decide, qx_e252, qv_e252, qv_a252, show Cond.methodLink _ _ _ ∈ lw_tbl from qv_in8 (List.mem_of_getElem? (i := 25) rfl), qv_i252, qv_s252, qv_n252, Or.inr ⟨12, 63, rfl, by decide, rfl⟩⟩
set_option maxRecDepth 100000 in
theorem qv_v58 : qv_V 0 142 141 3 0 0 := ⟨by decide, qx_e141, qv_e141, qv_a141, show Cond.methodLink _ _ _ ∈ lw_tbl from qv_in5 (List.mem_of_getElem? (i := 90) rfl), qv_i141, qv_s141, qv_n141, Or.inr ⟨0, 16, rfl, by decide, rfl⟩⟩
set_option maxRecDepth 100000 in
theorem qv_v59 : qv_V 0 145 254 3 0 12 := ⟨by decide, qx_e254, qv_e254, qv_a254, show Cond.methodLink _ _ _ ∈ lw_tbl from qv_in8 (List.mem_of_getElem? (i := 32) rfl), qv_i254, qv_s254, qv_n254, Or.inr ⟨12, 63, rfl, by decide, rfl⟩⟩
set_option maxRecDepth 100000 in
theorem qv_v60 : qv_V 0 146 144 0 0 0 := ⟨by decide, qx_e144, qv_e144, qv_a144, show Cond.methodLink _ _ _ ∈ lw_tbl from qv_in5 (List.mem_of_getElem? (i := 103) rfl), qv_i144, qv_s144, qv_n144, Or.inr ⟨0, 16, rfl, by decide, rfl⟩⟩
set_option maxRecDepth 100000 in
theorem qv_v61 : qv_V 0 150 172 0 0 12 := ⟨by decide, qx_e172, qv_e172, qv_a172, show Cond.methodLink _ _ _ ∈ lw_tbl from qv_in6 (List.mem_of_getElem? (i := 175) rfl), qv_i172, qv_s172, qv_n172, Or.inr ⟨12, 63, rfl, by decide, rfl⟩⟩
set_option maxRecDepth 100000 in
theorem qv_v62 : qv_V 0 151 146 0 0 0 := ⟨by decide, qx_e146, qv_e146, qv_a146, show Cond.methodLink _ _ _ ∈ lw_tbl from qv_in5 (List.mem_of_getElem? (i := 111) rfl), qv_i146, qv_s146, qv_n146, Or.inr ⟨0, 16, rfl, by decide, rfl⟩⟩
set_option maxRecDepth 100000 in
theorem qv_v63 : qv_V 0 154 173 0 0 12 := ⟨by decide, qx_e173, qv_e173, qv_a173, show Cond.methodLink _ _ _ ∈ lw_tbl from qv_in6 (List.mem_of_getElem? (i := 179) rfl), qv_i173, qv_s173, qv_n173, Or.inr ⟨12, 63, rfl, by decide, rfl⟩⟩
set_option maxRecDepth 100000 in
theorem qv_v64 : qv_V 0 155 148 3 0 0 := ⟨by decide, qx_e148, qv_e148, qv_a148, show Cond.methodLink _ _ _ ∈ lw_tbl from qv_in5 (List.mem_of_getElem? (i := 119) rfl), qv_i148, qv_s148, qv_n148, Or.inr ⟨0, 16, rfl, by decide, rfl⟩⟩
set_option maxRecDepth 100000 in
theorem qv_v65 : qv_V 0 158 255 3 0 12 := ⟨by decide, qx_e255, qv_e255, qv_a255, show Cond.methodLink _ _ _ ∈ lw_tbl from qv_in8 (List.mem_of_getElem? (i := 36) rfl), qv_i255, qv_s255, qv_n255, Or.inr ⟨12, 63, rfl, by decide, rfl⟩⟩
set_option maxRecDepth 100000 in
theorem qv_v66 : qv_V 0 159 154 1 0 0 := ⟨by decide, qx_e154, qv_e154, qv_a154, show Cond.methodLink _ _ _ ∈ lw_tbl from qv_in5 (List.mem_of_getElem? (i := 147) rfl), qv_i154, qv_s154, qv_n154, Or.inr ⟨0, 16, rfl, by decide, rfl⟩⟩
set_option maxRecDepth 100000 in
theorem qv_v67 : qv_V 0 162 261 1 0 12 := ⟨by decide, qx_e261, qv_e261, qv_a261, show Cond.methodLink _ _ _ ∈ lw_tbl from qv_in8 (List.mem_of_getElem? (i := 60) rfl), qv_i261, qv_s261, qv_n261, Or.inr ⟨12, 63, rfl, by decide, rfl⟩⟩
set_option maxRecDepth 100000 in
theorem qv_v68 : qv_V 0 163 155 2 0 0 := ⟨by decide, qx_e155, qv_e155, qv_a155, show Cond.methodLink _ _ _ ∈ lw_tbl from qv_in5 (List.mem_of_getElem? (i := 151) rfl), qv_i155, qv_s155, qv_n155, Or.inr ⟨0, 16, rfl, by decide, rfl⟩⟩
set_option maxRecDepth 100000 in
theorem qv_v69 : qv_V 0 166 262 2 0 12 := ⟨by decide, qx_e262, qv_e262, qv_a262, show Cond.methodLink _ _ _ ∈ lw_tbl from qv_in8 (List.mem_of_getElem? (i := 64) rfl), qv_i262, qv_s262, qv_n262, Or.inr ⟨12, 63, rfl, by decide, rfl⟩⟩
set_option maxRecDepth 100000 in
theorem qv_v70 : qv_V 0 167 157 3 0 0 := ⟨by decide, qx_e157, qv_e157, qv_a157, show Cond.methodLink _ _ _ ∈ lw_tbl from qv_in5 (List.mem_of_getElem? (i := 159) rfl), qv_i157, qv_s157, qv_n157, Or.inr ⟨0, 16, rfl, by decide, rfl⟩⟩
set_option maxRecDepth 100000 in
theorem qv_v71 : qv_V 0 170 263 3 0 12 := ⟨by decide, qx_e263, qv_e263, qv_a263, show Cond.methodLink _ _ _ ∈ lw_tbl from qv_in8 (List.mem_of_getElem? (i := 68) rfl), qv_i263, qv_s263, qv_n263, Or.inr ⟨12, 63, rfl, by decide, rfl⟩⟩
set_option maxRecDepth 100000 in
theorem qv_v72 : qv_V 0 171 159 3 0 0 := ⟨by decide, qx_e159, qv_e159, qv_a159, show Cond.methodLink _ _ _ ∈ lw_tbl from qv_in5 (List.mem_of_getElem? (i := 167) rfl), qv_i159, qv_s159, qv_n159, Or.inr ⟨0, 16, rfl, by decide, rfl⟩⟩
set_option maxRecDepth 100000 in
theorem qv_v73 : qv_V 0 175 264 3 0 12 := ⟨by decide, qx_e264, qv_e264, qv_a264, show Cond.methodLink _ _ _ ∈ lw_tbl from qv_in8 (List.mem_of_getElem? (i := 72) rfl), qv_i264, qv_s264, qv_n264, Or.inr ⟨12, 63, rfl, by decide, rfl⟩⟩
set_option maxRecDepth 100000 in
theorem qv_v74 : qv_V 0 176 163 2 0 0 := ⟨by decide, qx_e163, qv_e163, qv_a163, show Cond.methodLink _ _ _ ∈ lw_tbl from qv_in5 (List.mem_of_getElem? (i := 183) rfl), qv_i163, qv_s163, qv_n163, Or.inr ⟨0, 16, rfl, by decide, rfl⟩⟩
set_option maxRecDepth 100000 in
theorem qv_v75 : qv_V 0 180 267 2 0 12 := ⟨by decide, qx_e267, qv_e267, qv_a267, show Cond.methodLink _ _ _ ∈ lw_tbl from qv_in8 (List.mem_of_getElem? (i := 83) rfl), qv_i267, qv_s267, qv_n267, Or.inr ⟨12, 63, rfl, by decide, rfl⟩⟩
set_option maxRecDepth 100000 in
theorem qv_v76 : qv_V 0 181 164 5 0 0 := ⟨by decide, qx_e164, qv_e164, qv_a164, show Cond.methodLink _ _ _ ∈ lw_tbl from qv_in5 (List.mem_of_getElem? (i := 188) rfl), qv_i164, qv_s164, qv_n164, Or.inr ⟨0, 16, rfl, by decide, rfl⟩⟩
set_option maxRecDepth 100000 in
theorem qv_v77 : qv_V 0 185 268 5 0 12 := ⟨by decide, qx_e268, qv_e268, qv_a268, show Cond.methodLink _ _ _ ∈ lw_tbl from qv_in8 (List.mem_of_getElem? (i := 88) rfl), qv_i268, qv_s268, qv_n268, Or.inr ⟨12, 63, rfl, by decide, rfl⟩⟩
set_option maxRecDepth 100000 in
theorem qv_v78 : qv_V 0 186 167 2 0 0 := ⟨by decide, qx_e167, qv_e167, qv_a167, show Cond.methodLink _ _ _ ∈ lw_tbl from qv_in5 (List.mem_of_getElem? (i := 202) rfl), qv_i167, qv_s167, qv_n167, Or.inr ⟨0, 16, rfl, by decide, rfl⟩⟩
set_option maxRecDepth 100000 in
theorem qv_v79 : qv_V 0 189 269 2 0 12 := ⟨by decide, qx_e269, qv_e269, qv_a269, show Cond.methodLink _ _ _ ∈ lw_tbl from qv_in8 (List.mem_of_getElem? (i := 92) rfl), qv_i269, qv_s269, qv_n269, Or.inr ⟨12, 63, rfl, by decide, rfl⟩⟩
set_option maxRecDepth 100000 in
theorem qv_v80 : qv_V 0 190 170 1 0 0 := ⟨by decide, qx_e170, qv_e170, qv_a170, show Cond.methodLink _ _ _ ∈ lw_tbl from qv_in5 (List.mem_of_getElem? (i := 213) rfl), qv_i170, qv_s170, qv_n170, Or.inr ⟨0, 16, rfl, by decide, rfl⟩⟩
set_option maxRecDepth 100000 in
theorem qv_v81 : qv_V 0 193 271 1 0 12 := ⟨by decide, qx_e271, qv_e271, qv_a271, show Cond.methodLink _ _ _ ∈ lw_tbl from qv_in8 (List.mem_of_getElem? (i := 100) rfl), qv_i271, qv_s271, qv_n271, Or.inr ⟨12, 63, rfl, by decide, rfl⟩⟩
set_option maxRecDepth 100000 in
theorem qv_v82 : qv_V 1 118 39 3 0 1 := ⟨by decide, qx_e39, qv_e39, qv_a39, show Cond.methodLink _ _ _ ∈ lw_tbl from qv_in3 (List.mem_of_getElem? (i := 113) rfl), qv_i39, qv_s39, qv_n39, Or.inr ⟨1, 7, rfl, by decide, rfl⟩⟩
set_option maxRecDepth 100000 in
theorem qv_v83 : qv_V 1 125 42 3 0 1 := ⟨by decide, qx_e42, qv_e42, qv_a42, show Cond.methodLink _ _ _ ∈ lw_tbl from qv_in3 (List.mem_of_getElem? (i := 124) rfl), qv_i42, qv_s42, qv_n42, Or.inr ⟨1, 7, rfl, by decide, rfl⟩⟩
set_option maxRecDepth 100000 in
theorem qv_v84 : qv_V 1 129 44 1 0 6 := ⟨by decide, qx_e44, qv_e44, qv_a44, show Cond.methodLink _ _ _ ∈ lw_tbl from qv_in3 (List.mem_of_getElem? (i := 132) rfl), qv_i44, qv_s44, qv_n44, Or.inr ⟨6, 4, rfl, by decide, rfl⟩⟩
set_option maxRecDepth 100000 in
theorem qv_v85 : qv_V 1 133 45 1 0 6 := ⟨by decide, qx_e45, qv_e45, qv_a45, show Cond.methodLink _ _ _ ∈ lw_tbl from qv_in3 (List.mem_of_getElem? (i := 136) rfl), qv_i45, qv_s45, qv_n45, Or.inr ⟨6, 4, rfl, by decide, rfl⟩⟩
set_option maxRecDepth 100000 in
theorem qv_v86 : qv_V 1 136 46 2 0 6 := ⟨by decide, qx_e46, qv_e46, qv_a46, show Cond.methodLink _ _ _ ∈ lw_tbl from qv_in3 (List.mem_of_getElem? (i := 140) rfl), qv_i46, qv_s46, qv_n46, Or.inr ⟨6, 4, rfl, by decide, rfl⟩⟩
set_option maxRecDepth 100000 in
theorem qv_v87 : qv_V 1 147 48 2 0 6 := ⟨by decide, qx_e48, qv_e48, qv_a48, show Cond.methodLink _ _ _ ∈ lw_tbl from qv_in3 (List.mem_of_getElem? (i := 150) rfl), qv_i48, qv_s48, qv_n48, Or.inr ⟨6, 4, rfl, by decide, rfl⟩⟩
set_option maxRecDepth 100000 in
theorem qv_v88 : qv_V 1 151 40 1 0 1 := ⟨by decide, qx_e40, qv_e40, qv_a40, show Cond.methodLink _ _ _ ∈ lw_tbl from qv_in3 (List.mem_of_getElem? (i := 158) rfl), qv_i40, qv_s40, qv_n40, Or.inr ⟨1, 7, rfl, by decide, rfl⟩⟩
set_option maxRecDepth 100000 in
theorem qv_v89 : qv_V 1 172 52 3 0 11 := ⟨by decide, qx_e52, qv_e52, qv_a52, show Cond.methodLink _ _ _ ∈ lw_tbl from qv_in3 (List.mem_of_getElem? (i := 167) rfl), qv_i52, qv_s52, qv_n52, Or.inr ⟨11, 9, rfl, by decide, rfl⟩⟩
set_option maxRecDepth 100000 in
theorem qv_v90 : qv_V 1 175 57 2 0 2 := ⟨by decide, qx_e57, qv_e57, qv_a57, show Cond.methodLink _ _ _ ∈ lw_tbl from qv_in3 (List.mem_of_getElem? (i := 192) rfl), qv_i57, qv_s57, qv_n57, Or.inr ⟨2, 2, rfl, by decide, rfl⟩⟩
set_option maxRecDepth 100000 in
theorem qv_v91 : qv_V 1 180 58 3 0 2 := ⟨by decide, qx_e58, qv_e58, qv_a58, show Cond.methodLink _ _ _ ∈ lw_tbl from qv_in3 (List.mem_of_getElem? (i := 196) rfl), qv_i58, qv_s58, qv_n58, Or.inr ⟨2, 2, rfl, by decide, rfl⟩⟩
set_option maxRecDepth 100000 in
theorem qv_v92 : qv_V 1 184 61 1 0 1 := ⟨by decide, qx_e61, qv_e61, qv_a61, show Cond.methodLink _ _ _ ∈ lw_tbl from qv_in3 (List.mem_of_getElem? (i := 210) rfl), qv_i61, qv_s61, qv_n61, Or.inr ⟨1, 7, rfl, by decide, rfl⟩⟩
set_option maxRecDepth 100000 in
theorem qv_v93 : qv_V 1 191 63 5 0 3 := ⟨by decide, qx_e63, qv_e63, qv_a63, show Cond.methodLink _ _ _ ∈ lw_tbl from qv_in3 (List.mem_of_getElem? (i := 217) rfl), qv_i63, qv_s63, qv_n63, Or.inr ⟨3, 8, rfl, by decide, rfl⟩⟩
set_option maxRecDepth 100000 in
theorem qv_v94 : qv_V 1 195 66 4 0 3 := ⟨by decide, qx_e66, qv_e66, qv_a66, show Cond.methodLink _ _ _ ∈ lw_tbl from qv_in3 (List.mem_of_getElem? (i := 229) rfl), qv_i66, qv_s66, qv_n66, Or.inr ⟨3, 8, rfl, by decide, rfl⟩⟩
set_option maxRecDepth 100000 in
theorem qv_v95 : qv_V 1 203 71 5 0 4 := ⟨by decide, qx_e71, qv_e71, qv_a71, show Cond.methodLink _ _ _ ∈ lw_tbl from qv_in4 (List.mem_of_getElem? (i := 9) rfl), qv_i71, qv_s71, qv_n71, Or.inr ⟨4, 8, rfl, by decide, rfl⟩⟩
set_option maxRecDepth 100000 in
theorem qv_v96 : qv_V 1 206 73 1 0 4 := ⟨by decide, qx_e73, qv_e73, qv_a73, show Cond.methodLink _ _ _ ∈ lw_tbl from qv_in4 (List.mem_of_getElem? (i := 17) rfl), qv_i73, qv_s73, qv_n73, Or.inr ⟨4, 8, rfl, by decide, rfl⟩⟩
set_option maxRecDepth 100000 in
theorem qv_v97 : qv_V 1 232 77 2 0 4 := ⟨by decide, qx_e77, qv_e77, qv_a77, show Cond.methodLink _ _ _ ∈ lw_tbl from qv_in4 (List.mem_of_getElem? (i := 35) rfl), qv_i77, qv_s77, qv_n77, Or.inr ⟨4, 8, rfl, by decide, rfl⟩⟩
set_option maxRecDepth 100000 in
theorem qv_v98 : qv_V 1 235 78 4 0 4 := ⟨by decide, qx_e78, qv_e78, qv_a78, show Cond.methodLink _ _ _ ∈ lw_tbl from qv_in4 (List.mem_of_getElem? (i := 39) rfl), qv_i78, qv_s78, qv_n78, Or.inr ⟨4, 8, rfl, by decide, rfl⟩⟩
set_option maxRecDepth 100000 in
theorem qv_v99 : qv_V 1 239 80 4 0 4 := ⟨by decide, qx_e80, qv_e80, qv_a80, show Cond.methodLink _ _ _ ∈ lw_tbl from qv_in4 (List.mem_of_getElem? (i := 47) rfl), qv_i80, qv_s80, qv_n80, Or.inr ⟨4, 8, rfl, by decide, rfl⟩⟩
set_option maxRecDepth 100000 in
theorem qv_v100 : qv_V 1 246 86 2 0 7 := ⟨by decide, qx_e86, qv_e86, qv_a86, show Cond.methodLink _ _ _ ∈ lw_tbl from qv_in4 (List.mem_of_getElem? (i := 72) rfl), qv_i86, qv_s86, qv_n86, Or.inr ⟨7, 8, rfl, by decide, rfl⟩⟩
set_option maxRecDepth 100000 in
theorem qv_v101 : qv_V 1 250 88 1 0 1 := ⟨by decide, qx_e88, qv_e88, qv_a88, show Cond.methodLink _ _ _ ∈ lw_tbl from qv_in4 (List.mem_of_getElem? (i := 81) rfl), qv_i88, qv_s88, qv_n88, Or.inr ⟨1, 7, rfl, by decide, rfl⟩⟩
set_option maxRecDepth 100000 in
theorem qv_v102 : qv_V 1 257 89 1 0 8 := ⟨by decide, qx_e89, qv_e89, qv_a89, show Cond.methodLink _ _ _ ∈ lw_tbl from qv_in4 (List.mem_of_getElem? (i := 87) rfl), qv_i89, qv_s89, qv_n89, Or.inr ⟨8, 13, rfl, by decide, rfl⟩⟩
set_option maxRecDepth 100000 in
theorem qv_v103 : qv_V 1 261 90 5 0 8 := ⟨by decide, qx_e90, qv_e90, qv_a90, show Cond.methodLink _ _ _ ∈ lw_tbl from qv_in4 (List.mem_of_getElem? (i := 91) rfl), qv_i90, qv_s90, qv_n90, Or.inr ⟨8, 13, rfl, by decide, rfl⟩⟩
set_option maxRecDepth 100000 in
theorem qv_v104 : qv_V 1 268 101 1 0 8 := ⟨by decide, qx_e101, qv_e101, qv_a101, show Cond.methodLink _ _ _ ∈ lw_tbl from qv_in4 (List.mem_of_getElem? (i := 144) rfl), qv_i101, qv_s101, qv_n101, Or.inr ⟨8, 13, rfl, by decide, rfl⟩⟩
set_option maxRecDepth 100000 in
theorem qv_v105 : qv_V 1 271 104 1 0 8 := ⟨by decide, qx_e104, qv_e104, qv_a104, show Cond.methodLink _ _ _ ∈ lw_tbl from qv_in4 (List.mem_of_getElem? (i := 156) rfl), qv_i104, qv_s104, qv_n104, Or.inr ⟨8, 13, rfl, by decide, rfl⟩⟩
set_option maxRecDepth 100000 in
theorem qv_v106 : qv_V 1 274 106 4 0 8 := ⟨by decide, qx_e106, qv_e106, qv_a106, show Cond.methodLink _ _ _ ∈ lw_tbl from qv_in4 (List.mem_of_getElem? (i := 165) rfl), qv_i106, qv_s106, qv_n106, Or.inr ⟨8, 13, rfl, by decide, rfl⟩⟩
set_option maxRecDepth 100000 in
theorem qv_v107 : qv_V 1 281 110 1 0 9 := ⟨by decide, qx_e110, qv_e110, qv_a110, show Cond.methodLink _ _ _ ∈ lw_tbl from qv_in4 (List.mem_of_getElem? (i := 182) rfl), qv_i110, qv_s110, qv_n110, Or.inr ⟨9, 8, rfl, by decide, rfl⟩⟩
set_option maxRecDepth 100000 in
theorem qv_v108 : qv_V 1 285 111 2 0 9 := ⟨by decide, qx_e111, qv_e111, qv_a111, show Cond.methodLink _ _ _ ∈ lw_tbl from qv_in4 (List.mem_of_getElem? (i := 187) rfl), qv_i111, qv_s111, qv_n111, Or.inr ⟨9, 8, rfl, by decide, rfl⟩⟩
set_option maxRecDepth 100000 in
theorem qv_v109 : qv_V 1 289 112 1 0 9 := ⟨by decide, qx_e112, qv_e112, qv_a112, show Cond.methodLink _ _ _ ∈ lw_tbl from qv_in4 (List.mem_of_getElem? (i := 193) rfl), qv_i112, qv_s112, qv_n112, Or.inr ⟨9, 8, rfl, by decide, rfl⟩⟩
set_option maxRecDepth 100000 in
theorem qv_v110 : qv_V 1 293 118 1 0 9 := ⟨by decide, qx_e118, qv_e118, qv_a118, show Cond.methodLink _ _ _ ∈ lw_tbl from qv_in4 (List.mem_of_getElem? (i := 220) rfl), qv_i118, qv_s118, qv_n118, Or.inr ⟨9, 8, rfl, by decide, rfl⟩⟩
set_option maxRecDepth 100000 in
theorem qv_v111 : qv_V 1 297 121 3 0 9 := ⟨by decide, qx_e121, qv_e121, qv_a121, show Cond.methodLink _ _ _ ∈ lw_tbl from qv_in4 (List.mem_of_getElem? (i := 234) rfl), qv_i121, qv_s121, qv_n121, Or.inr ⟨9, 8, rfl, by decide, rfl⟩⟩
set_option maxRecDepth 100000 in
theorem qv_v112 : qv_V 1 304 128 3 0 9 := ⟨by decide, qx_e128, qv_e128, qv_a128, show Cond.methodLink _ _ _ ∈ lw_tbl from qv_in5 (List.mem_of_getElem? (i := 30) rfl), qv_i128, qv_s128, qv_n128, Or.inr ⟨9, 8, rfl, by decide, rfl⟩⟩
set_option maxRecDepth 100000 in
theorem qv_v113 : qv_V 1 307 130 0 0 9 := ⟨by decide, qx_e130, qv_e130, qv_a130, show Cond.methodLink _ _ _ ∈ lw_tbl from qv_in5 (List.mem_of_getElem? (i := 40) rfl), qv_i130, qv_s130, qv_n130, Or.inr ⟨9, 8, rfl, by decide, rfl⟩⟩
set_option maxRecDepth 100000 in
theorem qv_v114 : qv_V 1 311 134 3 0 10 := ⟨by decide, qx_e134, qv_e134, qv_a134, show Cond.methodLink _ _ _ ∈ lw_tbl from qv_in5 (List.mem_of_getElem? (i := 56) rfl), qv_i134, qv_s134, qv_n134, Or.inr ⟨10, 7, rfl, by decide, rfl⟩⟩
set_option maxRecDepth 100000 in
theorem qv_v115 : qv_V 1 330 142 3 0 3 := ⟨by decide, qx_e142, qv_e142, qv_a142, show Cond.methodLink _ _ _ ∈ lw_tbl from qv_in5 (List.mem_of_getElem? (i := 94) rfl), qv_i142, qv_s142, qv_n142, Or.inr ⟨3, 8, rfl, by decide, rfl⟩⟩
set_option maxRecDepth 100000 in
theorem qv_v116 : qv_V 1 334 143 1 0 2 := ⟨by decide, qx_e143, qv_e143, qv_a143, show Cond.methodLink _ _ _ ∈ lw_tbl from qv_in5 (List.mem_of_getElem? (i := 98) rfl), qv_i143, qv_s143, qv_n143, Or.inr ⟨2, 2, rfl, by decide, rfl⟩⟩
set_option maxRecDepth 100000 in
theorem qv_v117 : qv_V 1 338 145 0 0 11 := ⟨by decide, qx_e145, qv_e145, qv_a145, show Cond.methodLink _ _ _ ∈ lw_tbl from qv_in5 (List.mem_of_getElem? (i := 107) rfl), qv_i145, qv_s145, qv_n145, Or.inr ⟨11, 9, rfl, by decide, rfl⟩⟩
set_option maxRecDepth 100000 in
theorem qv_v118 : qv_V 1 341 147 0 0 11 := ⟨by decide, qx_e147, qv_e147, qv_a147, show Cond.methodLink _ _ _ ∈ lw_tbl from qv_in5 (List.mem_of_getElem? (i := 115) rfl), qv_i147, qv_s147, qv_n147, Or.inr ⟨11, 9, rfl, by decide, rfl⟩⟩
set_option maxRecDepth 100000 in
theorem qv_v119 : qv_V 1 344 149 0 0 5 := ⟨by decide, qx_e149, qv_e149, qv_a149, show Cond.methodLink _ _ _ ∈ lw_tbl from qv_in5 (List.mem_of_getElem? (i := 123) rfl), qv_i149, qv_s149, qv_n149, Or.inr ⟨5, 2, rfl, by decide, rfl⟩⟩
set_option maxRecDepth 100000 in
theorem qv_v120 : qv_V 1 347 150 4 0 5 := ⟨by decide, qx_e150, qv_e150, qv_a150, show Cond.methodLink _ _ _ ∈ lw_tbl from qv_in5 (List.mem_of_getElem? (i := 127) rfl), qv_i150, qv_s150, qv_n150, Or.inr ⟨5, 2, rfl, by decide, rfl⟩⟩
set_option maxRecDepth 100000 in
theorem qv_v121 : qv_V 1 357 156 2 0 6 := ⟨by decide, qx_e156, qv_e156, qv_a156, show Cond.methodLink _ _ _ ∈ lw_tbl from qv_in5 (List.mem_of_getElem? (i := 155) rfl), qv_i156, qv_s156, qv_n156, Or.inr ⟨6, 4, rfl, by decide, rfl⟩⟩
set_option maxRecDepth 100000 in
theorem qv_v122 : qv_V 1 360 158 3 0 6 := ⟨by decide, qx_e158, qv_e158, qv_a158, show Cond.methodLink _ _ _ ∈ lw_tbl from qv_in5 (List.mem_of_getElem? (i := 163) rfl), qv_i158, qv_s158, qv_n158, Or.inr ⟨6, 4, rfl, by decide, rfl⟩⟩
set_option maxRecDepth 100000 in
theorem qv_v123 : qv_V 1 363 160 2 0 6 := ⟨by decide, qx_e160, qv_e160, qv_a160, show Cond.methodLink _ _ _ ∈ lw_tbl from qv_in5 (List.mem_of_getElem? (i := 171) rfl), qv_i160, qv_s160, qv_n160, Or.inr ⟨6, 4, rfl, by decide, rfl⟩⟩
set_option maxRecDepth 100000 in
theorem qv_v124 : qv_V 1 366 161 3 0 6 := ⟨by decide, qx_e161, qv_e161, qv_a161, show Cond.methodLink _ _ _ ∈ lw_tbl from qv_in5 (List.mem_of_getElem? (i := 176) rfl), qv_i161, qv_s161, qv_n161, Or.inr ⟨6, 4, rfl, by decide, rfl⟩⟩
set_option maxRecDepth 100000 in
theorem qv_v125 : qv_V 1 371 47 1 0 6 := ⟨by decide, qx_e47, qv_e47, qv_a47, show Cond.methodLink _ _ _ ∈ lw_tbl from qv_in5 (List.mem_of_getElem? (i := 192) rfl), qv_i47, qv_s47, qv_n47, Or.inr ⟨6, 4, rfl, by decide, rfl⟩⟩
set_option maxRecDepth 100000 in
theorem qv_v126 : qv_V 1 377 165 3 0 6 := ⟨by decide, qx_e165, qv_e165, qv_a165, show Cond.methodLink _ _ _ ∈ lw_tbl from qv_in5 (List.mem_of_getElem? (i := 193) rfl), qv_i165, qv_s165, qv_n165, Or.inr ⟨6, 4, rfl, by decide, rfl⟩⟩
set_option maxRecDepth 100000 in
theorem qv_v127 : qv_V 1 380 166 5 0 6 := ⟨by decide, qx_e166, qv_e166, qv_a166, show Cond.methodLink _ _ _ ∈ lw_tbl from qv_in5 (List.mem_of_getElem? (i := 197) rfl), qv_i166, qv_s166, qv_n166, Or.inr ⟨6, 4, rfl, by decide, rfl⟩⟩
set_option maxRecDepth 100000 in
theorem qv_v128 : qv_V 1 384 168 1 0 6 := ⟨by decide, qx_e168, qv_e168, qv_a168, show Cond.methodLink _ _ _ ∈ lw_tbl from qv_in5 (List.mem_of_getElem? (i := 206) rfl), qv_i168, qv_s168, qv_n168, Or.inr ⟨6, 4, rfl, by decide, rfl⟩⟩
set_option maxRecDepth 100000 in
theorem qv_v129 : qv_V 2 36 40 1 0 1 := ⟨by decide, qx_e40, qv_e40, qv_a40, show Cond.methodLink _ _ _ ∈ lw_tbl from qv_in3 (List.mem_of_getElem? (i := 117) rfl), qv_i40, qv_s40, qv_n40, Or.inr ⟨1, 7, rfl, by decide, rfl⟩⟩
set_option maxRecDepth 100000 in
theorem qv_v130 : qv_V 2 47 96 2 0 1 := ⟨by decide, qx_e96, qv_e96, qv_a96, show Cond.methodLink _ _ _ ∈ lw_tbl from qv_in4 (List.mem_of_getElem? (i := 122) rfl), qv_i96, qv_s96, qv_n96, Or.inr ⟨1, 7, rfl, by decide, rfl⟩⟩
set_option maxRecDepth 100000 in
theorem qv_v131 : qv_V 3 25 57 2 0 2 := ⟨by decide, qx_e57, qv_e57, qv_a57, show Cond.methodLink _ _ _ ∈ lw_tbl from qv_in3 (List.mem_of_getElem? (i := 200) rfl), qv_i57, qv_s57, qv_n57, Or.inr ⟨2, 2, rfl, by decide, rfl⟩⟩
set_option maxRecDepth 100000 in
theorem qv_v132 : qv_V 5 43 67 2 0 3 := ⟨by decide, qx_e67, qv_e67, qv_a67, show Cond.methodLink _ _ _ ∈ lw_tbl from qv_in3 (List.mem_of_getElem? (i := 233) rfl), qv_i67, qv_s67, qv_n67, Or.inr ⟨3, 8, rfl, by decide, rfl⟩⟩
set_option maxRecDepth 100000 in
theorem qv_v133 : qv_V 5 47 68 4 0 3 := ⟨by decide, qx_e68, qv_e68, qv_a68, show Cond.methodLink _ _ _ ∈ lw_tbl from qv_in3 (List.mem_of_getElem? (i := 237) rfl), qv_i68, qv_s68, qv_n68, Or.inr ⟨3, 8, rfl, by decide, rfl⟩⟩
set_option maxRecDepth 100000 in
theorem qv_v134 : qv_V 5 57 66 4 0 3 := ⟨by decide, qx_e66, qv_e66, qv_a66, show Cond.methodLink _ _ _ ∈ lw_tbl from qv_in5 (List.mem_of_getElem? (i := 14) rfl), qv_i66, qv_s66, qv_n66, Or.inr ⟨3, 8, rfl, by decide, rfl⟩⟩
set_option maxRecDepth 100000 in
theorem qv_v135 : qv_V 6 43 77 2 0 4 := ⟨by decide, qx_e77, qv_e77, qv_a77, show Cond.methodLink _ _ _ ∈ lw_tbl from qv_in4 (List.mem_of_getElem? (i := 51) rfl), qv_i77, qv_s77, qv_n77, Or.inr ⟨4, 8, rfl, by decide, rfl⟩⟩
set_option maxRecDepth 100000 in
theorem qv_v136 : qv_V 6 47 78 4 0 4 := ⟨by decide, qx_e78, qv_e78, qv_a78, show Cond.methodLink _ _ _ ∈ lw_tbl from qv_in4 (List.mem_of_getElem? (i := 52) rfl), qv_i78, qv_s78, qv_n78, Or.inr ⟨4, 8, rfl, by decide, rfl⟩⟩
set_option maxRecDepth 100000 in
theorem qv_v137 : qv_V 7 20 151 5 0 5 := ⟨by decide, qx_e151, qv_e151, qv_a151, show Cond.methodLink _ _ _ ∈ lw_tbl from qv_in5 (List.mem_of_getElem? (i := 131) rfl), qv_i151, qv_s151, qv_n151, Or.inr ⟨5, 2, rfl, by decide, rfl⟩⟩
set_option maxRecDepth 100000 in
theorem qv_v138 : qv_V 7 24 152 6 0 5 := ⟨by decide, qx_e152, qv_e152, qv_a152, show Cond.methodLink _ _ _ ∈ lw_tbl from qv_in5 (List.mem_of_getElem? (i := 135) rfl), qv_i152, qv_s152, qv_n152, Or.inr ⟨5, 2, rfl, by decide, rfl⟩⟩
set_option maxRecDepth 100000 in
theorem qv_v139 : qv_V 7 31 153 6 0 5 := ⟨by decide, qx_e153, qv_e153, qv_a153, show Cond.methodLink _ _ _ ∈ lw_tbl from qv_in5 (List.mem_of_getElem? (i := 143) rfl), qv_i153, qv_s153, qv_n153, Or.inr ⟨5, 2, rfl, by decide, rfl⟩⟩
set_option maxRecDepth 100000 in
theorem qv_v140 : qv_V 8 25 47 1 0 6 := ⟨by decide, qx_e47, qv_e47, qv_a47, show Cond.methodLink _ _ _ ∈ lw_tbl from qv_in3 (List.mem_of_getElem? (i := 144) rfl), qv_i47, qv_s47, qv_n47, Or.inr ⟨6, 4, rfl, by decide, rfl⟩⟩
set_option maxRecDepth 100000 in
theorem qv_v141 : qv_V 8 29 45 1 0 6 := ⟨by decide, qx_e45, qv_e45, qv_a45, show Cond.methodLink _ _ _ ∈ lw_tbl from qv_in5 (List.mem_of_getElem? (i := 175) rfl), qv_i45, qv_s45, qv_n45, Or.inr ⟨6, 4, rfl, by decide, rfl⟩⟩
set_option maxRecDepth 100000 in
theorem qv_v142 : qv_V 9 38 10 0 0 13 := ⟨by decide, qx_e10, qv_e10, qv_a10, show Cond.methodLink _ _ _ ∈ lw_tbl from qv_in1 (List.mem_of_getElem? (i := 213) rfl), qv_i10, qv_s10, qv_n10, Or.inl ⟨rfl, rfl⟩⟩
set_option maxRecDepth 100000 in
theorem qv_v143 : qv_V 9 49 13 1 0 13 := ⟨by decide, qx_e13, qv_e13, qv_a13, show Cond.methodLink _ _ _ ∈ lw_tbl from qv_in1 (List.mem_of_getElem? (i := 226) rfl), qv_i13, qv_s13, qv_n13, Or.inl ⟨rfl, rfl⟩⟩
set_option maxRecDepth 100000 in
theorem qv_v144 : qv_V 9 53 18 0 0 7 := ⟨by decide, qx_e18, qv_e18, qv_a18, show Cond.methodLink _ _ _ ∈ lw_tbl from qv_in2 (List.mem_of_getElem? (i := 24) rfl), qv_i18, qv_s18, qv_n18, Or.inr ⟨7, 8, rfl, by decide, rfl⟩⟩
set_option maxRecDepth 100000 in
theorem qv_v145 : qv_V 9 66 19 0 0 7 := ⟨by decide, qx_e19, qv_e19, qv_a19, show Cond.methodLink _ _ _ ∈ lw_tbl from qv_in2 (List.mem_of_getElem? (i := 28) rfl), qv_i19, qv_s19, qv_n19, Or.inr ⟨7, 8, rfl, by decide, rfl⟩⟩
set_option maxRecDepth 100000 in
theorem qv_v146 : qv_V 9 69 32 1 0 7 := ⟨by decide, qx_e32, qv_e32, qv_a32, show Cond.methodLink _ _ _ ∈ lw_tbl from qv_in2 (List.mem_of_getElem? (i := 113) rfl), qv_i32, qv_s32, qv_n32, Or.inr ⟨7, 8, rfl, by decide, rfl⟩⟩
set_option maxRecDepth 100000 in
theorem qv_v147 : qv_V 9 73 20 2 0 7 := ⟨by decide, qx_e20, qv_e20, qv_a20, show Cond.methodLink _ _ _ ∈ lw_tbl from qv_in2 (List.mem_of_getElem? (i := 32) rfl), qv_i20, qv_s20, qv_n20, Or.inr ⟨7, 8, rfl, by decide, rfl⟩⟩
set_option maxRecDepth 100000 in
theorem qv_v148 : qv_V 9 77 22 0 0 7 := ⟨by decide, qx_e22, qv_e22, qv_a22, show Cond.methodLink _ _ _ ∈ lw_tbl from qv_in2 (List.mem_of_getElem? (i := 40) rfl), qv_i22, qv_s22, qv_n22, Or.inr ⟨7, 8, rfl, by decide, rfl⟩⟩
set_option maxRecDepth 100000 in
theorem qv_v149 : qv_V 9 80 25 2 0 7 := ⟨by decide, qx_e25, qv_e25, qv_a25, show Cond.methodLink _ _ _ ∈ lw_tbl from qv_in2 (List.mem_of_getElem? (i := 51) rfl), qv_i25, qv_s25, qv_n25, Or.inr ⟨7, 8, rfl, by decide, rfl⟩⟩
set_option maxRecDepth 100000 in
theorem qv_v150 : qv_V 9 84 21 1 0 7 := ⟨by decide, qx_e21, qv_e21, qv_a21, show Cond.methodLink _ _ _ ∈ lw_tbl from qv_in2 (List.mem_of_getElem? (i := 36) rfl), qv_i21, qv_s21, qv_n21, Or.inr ⟨7, 8, rfl, by decide, rfl⟩⟩
set_option maxRecDepth 100000 in
theorem qv_v151 : qv_V 9 95 24 0 0 7 := ⟨by decide, qx_e24, qv_e24, qv_a24, show Cond.methodLink _ _ _ ∈ lw_tbl from qv_in2 (List.mem_of_getElem? (i := 47) rfl), qv_i24, qv_s24, qv_n24, Or.inr ⟨7, 8, rfl, by decide, rfl⟩⟩
set_option maxRecDepth 100000 in
theorem qv_v152 : qv_V 9 100 26 1 0 13 := ⟨by decide, qx_e26, qv_e26, qv_a26, show Cond.methodLink _ _ _ ∈ lw_tbl from qv_in2 (List.mem_of_getElem? (i := 56) rfl), qv_i26, qv_s26, qv_n26, Or.inl ⟨rfl, rfl⟩⟩
set_option maxRecDepth 100000 in
theorem qv_v153 : qv_V 10 335 11 0 0 13 := ⟨by decide, qx_e11, qv_e11, qv_a11, show Cond.methodLink _ _ _ ∈ lw_tbl from qv_in1 (List.mem_of_getElem? (i := 217) rfl), qv_i11, qv_s11, qv_n11, Or.inl ⟨rfl, rfl⟩⟩
set_option maxRecDepth 100000 in
theorem qv_v154 : qv_V 10 492 14 0 0 13 := ⟨by decide, qx_e14, qv_e14, qv_a14, show Cond.methodLink _ _ _ ∈ lw_tbl from qv_in1 (List.mem_of_getElem? (i := 230) rfl), qv_i14, qv_s14, qv_n14, Or.inl ⟨rfl, rfl⟩⟩
set_option maxRecDepth 100000 in
theorem qv_v155 : qv_V 10 505 10 0 0 13 := ⟨by decide, qx_e10, qv_e10, qv_a10, show Cond.methodLink _ _ _ ∈ lw_tbl from qv_in2 (List.mem_of_getElem? (i := 64) rfl), qv_i10, qv_s10, qv_n10, Or.inl ⟨rfl, rfl⟩⟩
set_option maxRecDepth 100000 in
theorem qv_v156 : qv_V 10 633 27 2 0 13 := ⟨by decide, qx_e27, qv_e27, qv_a27, show Cond.methodLink _ _ _ ∈ lw_tbl from qv_in2 (List.mem_of_getElem? (i := 60) rfl), qv_i27, qv_s27, qv_n27, Or.inl ⟨rfl, rfl⟩⟩
set_option maxRecDepth 100000 in
theorem qv_v157 : qv_V 14 61 102 1 0 3 := ⟨by decide, qx_e102, qv_e102, qv_a102, show Cond.methodLink _ _ _ ∈ lw_tbl from qv_in4 (List.mem_of_getElem? (i := 148) rfl), qv_i102, qv_s102, qv_n102, Or.inr ⟨3, 8, rfl, by decide, rfl⟩⟩
set_option maxRecDepth 100000 in
theorem qv_v158 : qv_V 14 67 103 1 0 4 := ⟨by decide, qx_e103, qv_e103, qv_a103, show Cond.methodLink _ _ _ ∈ lw_tbl from qv_in4 (List.mem_of_getElem? (i := 152) rfl), qv_i103, qv_s103, qv_n103, Or.inr ⟨4, 8, rfl, by decide, rfl⟩⟩
set_option maxRecDepth 100000 in
theorem qv_v159 : qv_V 14 82 66 4 0 3 := ⟨by decide, qx_e66, qv_e66, qv_a66, show Cond.methodLink _ _ _ ∈ lw_tbl from qv_in4 (List.mem_of_getElem? (i := 109) rfl), qv_i66, qv_s66, qv_n66, Or.inr ⟨3, 8, rfl, by decide, rfl⟩⟩
set_option maxRecDepth 100000 in
theorem qv_v160 : qv_V 14 86 80 4 0 4 := ⟨by decide, qx_e80, qv_e80, qv_a80, show Cond.methodLink _ _ _ ∈ lw_tbl from qv_in4 (List.mem_of_getElem? (i := 114) rfl), qv_i80, qv_s80, qv_n80, Or.inr ⟨4, 8, rfl, by decide, rfl⟩⟩
set_option maxRecDepth 100000 in
theorem qv_v161 : qv_V 14 92 91 1 0 7 := ⟨by decide, qx_e91, qv_e91, qv_a91, show Cond.methodLink _ _ _ ∈ lw_tbl from qv_in4 (List.mem_of_getElem? (i := 95) rfl), qv_i91, qv_s91, qv_n91, Or.inr ⟨7, 8, rfl, by decide, rfl⟩⟩
set_option maxRecDepth 100000 in
theorem qv_v162 : qv_V 14 95 92 2 0 8 := ⟨by decide, qx_e92, qv_e92, qv_a92, show Cond.methodLink _ _ _ ∈ lw_tbl from qv_in4 (List.mem_of_getElem? (i := 100) rfl), qv_i92, qv_s92, qv_n92, Or.inr ⟨8, 13, rfl, by decide, rfl⟩⟩
set_option maxRecDepth 100000 in
theorem qv_v163 : qv_V 14 98 94 2 0 8 := ⟨by decide, qx_e94, qv_e94, qv_a94, show Cond.methodLink _ _ _ ∈ lw_tbl from qv_in4 (List.mem_of_getElem? (i := 110) rfl), qv_i94, qv_s94, qv_n94, Or.inr ⟨8, 13, rfl, by decide, rfl⟩⟩
set_option maxRecDepth 100000 in
theorem qv_v164 : qv_V 14 108 95 2 0 1 := ⟨by decide, qx_e95, qv_e95, qv_a95, show Cond.methodLink _ _ _ ∈ lw_tbl from qv_in4 (List.mem_of_getElem? (i := 117) rfl), qv_i95, qv_s95, qv_n95, Or.inr ⟨1, 7, rfl, by decide, rfl⟩⟩
set_option maxRecDepth 100000 in
theorem qv_v165 : qv_V 14 124 57 2 0 2 := ⟨by decide, qx_e57, qv_e57, qv_a57, show Cond.methodLink _ _ _ ∈ lw_tbl from qv_in4 (List.mem_of_getElem? (i := 127) rfl), qv_i57, qv_s57, qv_n57, Or.inr ⟨2, 2, rfl, by decide, rfl⟩⟩
set_option maxRecDepth 100000 in
theorem qv_v166 : qv_V 14 129 97 1 0 7 := ⟨by decide, qx_e97, qv_e97, qv_a97, show Cond.methodLink _ _ _ ∈ lw_tbl from qv_in4 (List.mem_of_getElem? (i := 128) rfl), qv_i97, qv_s97, qv_n97, Or.inr ⟨7, 8, rfl, by decide, rfl⟩⟩
set_option maxRecDepth 100000 in
theorem qv_v167 : qv_V 14 136 90 5 0 8 := ⟨by decide, qx_e90, qv_e90, qv_a90, show Cond.methodLink _ _ _ ∈ lw_tbl from qv_in4 (List.mem_of_getElem? (i := 160) rfl), qv_i90, qv_s90, qv_n90, Or.inr ⟨8, 13, rfl, by decide, rfl⟩⟩
set_option maxRecDepth 100000 in
theorem qv_v168 : qv_V 14 140 101 1 0 8 := ⟨by decide, qx_e101, qv_e101, qv_a101, show Cond.methodLink _ _ _ ∈ lw_tbl from qv_in4 (List.mem_of_getElem? (i := 169) rfl), qv_i101, qv_s101, qv_n101, Or.inr ⟨8, 13, rfl, by decide, rfl⟩⟩
set_option maxRecDepth 100000 in
theorem qv_v169 : qv_V 14 141 89 1 0 8 := ⟨by decide, qx_e89, qv_e89, qv_a89, show Cond.methodLink _ _ _ ∈ lw_tbl from qv_in4 (List.mem_of_getElem? (i := 170) rfl), qv_i89, qv_s89, qv_n89, Or.inr ⟨8, 13, rfl, by decide, rfl⟩⟩
set_option maxRecDepth 100000 in
theorem qv_v170 : qv_V 14 145 107 2 0 8 := ⟨by decide, qx_e107, qv_e107, qv_a107, show Cond.methodLink _ _ _ ∈ lw_tbl from qv_in4 (List.mem_of_getElem? (i := 171) rfl), qv_i107, qv_s107, qv_n107, Or.inr ⟨8, 13, rfl, by decide, rfl⟩⟩
set_option maxRecDepth 100000 in
theorem qv_v171 : qv_V 15 48 106 4 0 8 := ⟨by decide, qx_e106, qv_e106, qv_a106, show Cond.methodLink _ _ _ ∈ lw_tbl from qv_in4 (List.mem_of_getElem? (i := 192) rfl), qv_i106, qv_s106, qv_n106, Or.inr ⟨8, 13, rfl, by decide, rfl⟩⟩
set_option maxRecDepth 100000 in
theorem qv_v172 : qv_V 15 63 114 1 0 9 := ⟨by decide, qx_e114, qv_e114, qv_a114, show Cond.methodLink _ _ _ ∈ lw_tbl from qv_in4 (List.mem_of_getElem? (i := 201) rfl), qv_i114, qv_s114, qv_n114, Or.inr ⟨9, 8, rfl, by decide, rfl⟩⟩
set_option maxRecDepth 100000 in
theorem qv_v173 : qv_V 15 67 113 1 0 9 := ⟨by decide, qx_e113, qv_e113, qv_a113, show Cond.methodLink _ _ _ ∈ lw_tbl from qv_in4 (List.mem_of_getElem? (i := 197) rfl), qv_i113, qv_s113, qv_n113, Or.inr ⟨9, 8, rfl, by decide, rfl⟩⟩
set_option maxRecDepth 100000 in
theorem qv_v174 : qv_V 15 77 116 1 0 9 := ⟨by decide, qx_e116, qv_e116, qv_a116, show Cond.methodLink _ _ _ ∈ lw_tbl from qv_in4 (List.mem_of_getElem? (i := 212) rfl), qv_i116, qv_s116, qv_n116, Or.inr ⟨9, 8, rfl, by decide, rfl⟩⟩
set_option maxRecDepth 100000 in
theorem qv_v175 : qv_V 15 81 119 0 0 9 := ⟨by decide, qx_e119, qv_e119, qv_a119, show Cond.methodLink _ _ _ ∈ lw_tbl from qv_in4 (List.mem_of_getElem? (i := 224) rfl), qv_i119, qv_s119, qv_n119, Or.inr ⟨9, 8, rfl, by decide, rfl⟩⟩
set_option maxRecDepth 100000 in
theorem qv_v176 : qv_V 15 97 122 2 0 3 := ⟨by decide, qx_e122, qv_e122, qv_a122, show Cond.methodLink _ _ _ ∈ lw_tbl from qv_in4 (List.mem_of_getElem? (i := 238) rfl), qv_i122, qv_s122, qv_n122, Or.inr ⟨3, 8, rfl, by decide, rfl⟩⟩
set_option maxRecDepth 100000 in
theorem qv_v177 : qv_V 15 107 123 2 0 9 := ⟨by decide, qx_e123, qv_e123, qv_a123, show Cond.methodLink _ _ _ ∈ lw_tbl from qv_in5 (List.mem_of_getElem? (i := 3) rfl), qv_i123, qv_s123, qv_n123, Or.inr ⟨9, 8, rfl, by decide, rfl⟩⟩
set_option maxRecDepth 100000 in
theorem qv_v178 : qv_V 15 110 125 1 0 3 := ⟨by decide, qx_e125, qv_e125, qv_a125, show Cond.methodLink _ _ _ ∈ lw_tbl from qv_in5 (List.mem_of_getElem? (i := 16) rfl), qv_i125, qv_s125, qv_n125, Or.inr ⟨3, 8, rfl, by decide, rfl⟩⟩
set_option maxRecDepth 100000 in
theorem qv_v179 : qv_V 15 116 101 1 0 8 := ⟨by decide, qx_e101, qv_e101, qv_a101, show Cond.methodLink _ _ _ ∈ lw_tbl from qv_in5 (List.mem_of_getElem? (i := 7) rfl), qv_i101, qv_s101, qv_n101, Or.inr ⟨8, 13, rfl, by decide, rfl⟩⟩
set_option maxRecDepth 100000 in
theorem qv_v180 : qv_V 15 120 89 1 0 8 := ⟨by decide, qx_e89, qv_e89, qv_a89, show Cond.methodLink _ _ _ ∈ lw_tbl from qv_in5 (List.mem_of_getElem? (i := 8) rfl), qv_i89, qv_s89, qv_n89, Or.inr ⟨8, 13, rfl, by decide, rfl⟩⟩
set_option maxRecDepth 100000 in
theorem qv_v181 : qv_V 15 124 107 2 0 8 := ⟨by decide, qx_e107, qv_e107, qv_a107, show Cond.methodLink _ _ _ ∈ lw_tbl from qv_in5 (List.mem_of_getElem? (i := 9) rfl), qv_i107, qv_s107, qv_n107, Or.inr ⟨8, 13, rfl, by decide, rfl⟩⟩
set_option maxRecDepth 100000 in
theorem qv_v182 : qv_V 15 132 124 4 0 3 := ⟨by decide, qx_e124, qv_e124, qv_a124, show Cond.methodLink _ _ _ ∈ lw_tbl from qv_in5 (List.mem_of_getElem? (i := 10) rfl), qv_i124, qv_s124, qv_n124, Or.inr ⟨3, 8, rfl, by decide, rfl⟩⟩
set_option maxRecDepth 100000 in
theorem qv_v183 : qv_V 15 136 129 2 0 9 := ⟨by decide, qx_e129, qv_e129, qv_a129, show Cond.methodLink _ _ _ ∈ lw_tbl from qv_in5 (List.mem_of_getElem? (i := 34) rfl), qv_i129, qv_s129, qv_n129, Or.inr ⟨9, 8, rfl, by decide, rfl⟩⟩
set_option maxRecDepth 100000 in
theorem qv_v184 : qv_V 15 142 92 2 0 8 := ⟨by decide, qx_e92, qv_e92, qv_a92, show Cond.methodLink _ _ _ ∈ lw_tbl from qv_in5 (List.mem_of_getElem? (i := 38) rfl), qv_i92, qv_s92, qv_n92, Or.inr ⟨8, 13, rfl, by decide, rfl⟩⟩
set_option maxRecDepth 100000 in
theorem qv_v185 : qv_V 15 145 94 2 0 8 := ⟨by decide, qx_e94, qv_e94, qv_a94, show Cond.methodLink _ _ _ ∈ lw_tbl from qv_in5 (List.mem_of_getElem? (i := 39) rfl), qv_i94, qv_s94, qv_n94, Or.inr ⟨8, 13, rfl, by decide, rfl⟩⟩
set_option maxRecDepth 100000 in
theorem qv_v186 : qv_V 15 148 131 3 0 9 := ⟨by decide, qx_e131, qv_e131, qv_a131, show Cond.methodLink _ _ _ ∈ lw_tbl from qv_in5 (List.mem_of_getElem? (i := 44) rfl), qv_i131, qv_s131, qv_n131, Or.inr ⟨9, 8, rfl, by decide, rfl⟩⟩
set_option maxRecDepth 100000 in
theorem qv_v187 : qv_V 15 152 132 2 0 9 := ⟨by decide, qx_e132, qv_e132, qv_a132, show Cond.methodLink _ _ _ ∈ lw_tbl from qv_in5 (List.mem_of_getElem? (i := 48) rfl), qv_i132, qv_s132, qv_n132, Or.inr ⟨9, 8, rfl, by decide, rfl⟩⟩
set_option maxRecDepth 100000 in
theorem qv_v188 : qv_V 16 36 135 2 0 10 := ⟨by decide, qx_e135, qv_e135, qv_a135, show Cond.methodLink _ _ _ ∈ lw_tbl from qv_in5 (List.mem_of_getElem? (i := 60) rfl), qv_i135, qv_s135, qv_n135, Or.inr ⟨10, 7, rfl, by decide, rfl⟩⟩
set_option maxRecDepth 100000 in
theorem qv_v189 : qv_V 16 40 137 0 0 10 := ⟨by decide, qx_e137, qv_e137, qv_a137, show Cond.methodLink _ _ _ ∈ lw_tbl from qv_in5 (List.mem_of_getElem? (i := 72) rfl), qv_i137, qv_s137, qv_n137, Or.inr ⟨10, 7, rfl, by decide, rfl⟩⟩
set_option maxRecDepth 100000 in
theorem qv_v190 : qv_V 16 44 104 1 0 8 := ⟨by decide, qx_e104, qv_e104, qv_a104, show Cond.methodLink _ _ _ ∈ lw_tbl from qv_in5 (List.mem_of_getElem? (i := 77) rfl), qv_i104, qv_s104, qv_n104, Or.inr ⟨8, 13, rfl, by decide, rfl⟩⟩
set_option maxRecDepth 100000 in
theorem qv_v191 : qv_V 16 54 94 2 0 8 := ⟨by decide, qx_e94, qv_e94, qv_a94, show Cond.methodLink _ _ _ ∈ lw_tbl from qv_in5 (List.mem_of_getElem? (i := 65) rfl), qv_i94, qv_s94, qv_n94, Or.inr ⟨8, 13, rfl, by decide, rfl⟩⟩
set_option maxRecDepth 100000 in
theorem qv_v192 : qv_V 16 62 136 1 0 4 := ⟨by decide, qx_e136, qv_e136, qv_a136, show Cond.methodLink _ _ _ ∈ lw_tbl from qv_in5 (List.mem_of_getElem? (i := 66) rfl), qv_i136, qv_s136, qv_n136, Or.inr ⟨4, 8, rfl, by decide, rfl⟩⟩
set_option maxRecDepth 100000 in
theorem qv_v193 : qv_V 16 81 90 5 0 8 := ⟨by decide, qx_e90, qv_e90, qv_a90, show Cond.methodLink _ _ _ ∈ lw_tbl from qv_in5 (List.mem_of_getElem? (i := 76) rfl), qv_i90, qv_s90, qv_n90, Or.inr ⟨8, 13, rfl, by decide, rfl⟩⟩
set_option maxRecDepth 100000 in
theorem qv_v194 : qv_V 17 43 53 2 0 11 := ⟨by decide, qx_e53, qv_e53, qv_a53, show Cond.methodLink _ _ _ ∈ lw_tbl from qv_in3 (List.mem_of_getElem? (i := 171) rfl), qv_i53, qv_s53, qv_n53, Or.inr ⟨11, 9, rfl, by decide, rfl⟩⟩
set_option maxRecDepth 100000 in
theorem qv_v195 : qv_V 17 47 54 0 0 11 := ⟨by decide, qx_e54, qv_e54, qv_a54, show Cond.methodLink _ _ _ ∈ lw_tbl from qv_in3 (List.mem_of_getElem? (i := 176) rfl), qv_i54, qv_s54, qv_n54, Or.inr ⟨11, 9, rfl, by decide, rfl⟩⟩
set_option maxRecDepth 100000 in
theorem qv_v196 : qv_V 17 50 55 3 0 11 := ⟨by decide, qx_e55, qv_e55, qv_a55, show Cond.methodLink _ _ _ ∈ lw_tbl from qv_in3 (List.mem_of_getElem? (i := 183) rfl), qv_i55, qv_s55, qv_n55, Or.inr ⟨11, 9, rfl, by decide, rfl⟩⟩
set_option maxRecDepth 100000 in
theorem qv_v197 : qv_V 20 150 175 3 0 12 := ⟨by decide, qx_e175, qv_e175, qv_a175, show Cond.methodLink _ _ _ ∈ lw_tbl from qv_in6 (List.mem_of_getElem? (i := 187) rfl), qv_i175, qv_s175, qv_n175, Or.inr ⟨12, 63, rfl, by decide, rfl⟩⟩
set_option maxRecDepth 100000 in
theorem qv_v198 : qv_V 20 164 174 3 0 12 := ⟨by decide, qx_e174, qv_e174, qv_a174, show Cond.methodLink _ _ _ ∈ lw_tbl from qv_in6 (List.mem_of_getElem? (i := 204) rfl), qv_i174, qv_s174, qv_n174, Or.inr ⟨12, 63, rfl, by decide, rfl⟩⟩
set_option maxRecDepth 100000 in
theorem qv_v199 : qv_V 20 171 180 1 0 12 := ⟨by decide, qx_e180, qv_e180, qv_a180, show Cond.methodLink _ _ _ ∈ lw_tbl from qv_in6 (List.mem_of_getElem? (i := 209) rfl), qv_i180, qv_s180, qv_n180, Or.inr ⟨12, 63, rfl, by decide, rfl⟩⟩
set_option maxRecDepth 100000 in
theorem qv_v200 : qv_V 20 174 181 1 0 12 := ⟨by decide, qx_e181, qv_e181, qv_a181, show Cond.methodLink _ _ _ ∈ lw_tbl from qv_in6 (List.mem_of_getElem? (i := 213) rfl), qv_i181, qv_s181, qv_n181, Or.inr ⟨12, 63, rfl, by decide, rfl⟩⟩
set_option maxRecDepth 100000 in
theorem qv_v201 : qv_V 20 177 183 2 0 12 := ⟨by decide, qx_e183, qv_e183, qv_a183, show Cond.methodLink _ _ _ ∈ lw_tbl from qv_in6 (List.mem_of_getElem? (i := 221) rfl), qv_i183, qv_s183, qv_n183, Or.inr ⟨12, 63, rfl, by decide, rfl⟩⟩
set_option maxRecDepth 100000 in
theorem qv_v202 : qv_V 20 184 185 2 0 12 := ⟨by decide, qx_e185, qv_e185, qv_a185, show Cond.methodLink _ _ _ ∈ lw_tbl from qv_in6 (List.mem_of_getElem? (i := 229) rfl), qv_i185, qv_s185, qv_n185, Or.inr ⟨12, 63, rfl, by decide, rfl⟩⟩
set_option maxRecDepth 100000 in
theorem qv_v203 : qv_V 20 188 189 2 0 12 := ⟨by decide, qx_e189, qv_e189, qv_a189, show Cond.methodLink _ _ _ ∈ lw_tbl from qv_in7 (List.mem_of_getElem? (i := 5) rfl), qv_i189, qv_s189, qv_n189, Or.inr ⟨12, 63, rfl, by decide, rfl⟩⟩
set_option maxRecDepth 100000 in
theorem qv_v204 : qv_V 20 191 188 0 0 12 := ⟨by decide, qx_e188, qv_e188, qv_a188, show Cond.methodLink _ _ _ ∈ lw_tbl from qv_in7 (List.mem_of_getElem? (i := 1) rfl), qv_i188, qv_s188, qv_n188, Or.inr ⟨12, 63, rfl, by decide, rfl⟩⟩
set_option maxRecDepth 100000 in
theorem qv_v205 : qv_V 20 194 187 2 0 12 := ⟨by decide, qx_e187, qv_e187, qv_a187, show Cond.methodLink _ _ _ ∈ lw_tbl from qv_in6 (List.mem_of_getElem? (i := 237) rfl), qv_i187, qv_s187, qv_n187, Or.inr ⟨12, 63, rfl, by decide, rfl⟩⟩
set_option maxRecDepth 100000 in
theorem qv_v206 : qv_V 20 197 191 1 0 12 := ⟨by decide, qx_e191, qv_e191, qv_a191, show Cond.methodLink _ _ _ ∈ lw_tbl from qv_in7 (List.mem_of_getElem? (i := 13) rfl), qv_i191, qv_s191, qv_n191, Or.inr ⟨12, 63, rfl, by decide, rfl⟩⟩
set_option maxRecDepth 100000 in
theorem qv_v207 : qv_V 20 213 196 2 0 12 := ⟨by decide, qx_e196, qv_e196, qv_a196, show Cond.methodLink _ _ _ ∈ lw_tbl from qv_in7 (List.mem_of_getElem? (i := 35) rfl), qv_i196, qv_s196, qv_n196, Or.inr ⟨12, 63, rfl, by decide, rfl⟩⟩
set_option maxRecDepth 100000 in
theorem qv_v208 : qv_V 20 216 197 3 0 12 := ⟨by decide, qx_e197, qv_e197, qv_a197, show Cond.methodLink _ _ _ ∈ lw_tbl from qv_in7 (List.mem_of_getElem? (i := 39) rfl), qv_i197, qv_s197, qv_n197, Or.inr ⟨12, 63, rfl, by decide, rfl⟩⟩
set_option maxRecDepth 100000 in
theorem qv_v209 : qv_V 20 222 195 3 0 12 := ⟨by decide, qx_e195, qv_e195, qv_a195, show Cond.methodLink _ _ _ ∈ lw_tbl from qv_in7 (List.mem_of_getElem? (i := 31) rfl), qv_i195, qv_s195, qv_n195, Or.inr ⟨12, 63, rfl, by decide, rfl⟩⟩
set_option maxRecDepth 100000 in
theorem qv_v210 : qv_V 20 234 200 1 0 12 := ⟨by decide, qx_e200, qv_e200, qv_a200, show Cond.methodLink _ _ _ ∈ lw_tbl from qv_in7 (List.mem_of_getElem? (i := 54) rfl), qv_i200, qv_s200, qv_n200, Or.inr ⟨12, 63, rfl, by decide, rfl⟩⟩
set_option maxRecDepth 100000 in
theorem qv_v211 : qv_V 20 237 201 1 0 12 := ⟨by decide, qx_e201, qv_e201, qv_a201, show Cond.methodLink _ _ _ ∈ lw_tbl from qv_in7 (List.mem_of_getElem? (i := 58) rfl), qv_i201, qv_s201, qv_n201, Or.inr ⟨12, 63, rfl, by decide, rfl⟩⟩
set_option maxRecDepth 100000 in
theorem qv_v212 : qv_V 20 241 202 2 0 12 := ⟨by decide, qx_e202, qv_e202, qv_a202, show Cond.methodLink _ _ _ ∈ lw_tbl from qv_in7 (List.mem_of_getElem? (i := 62) rfl), qv_i202, qv_s202, qv_n202, Or.inr ⟨12, 63, rfl, by decide, rfl⟩⟩
set_option maxRecDepth 100000 in
theorem qv_v213 : qv_V 20 244 207 2 0 12 := ⟨by decide, qx_e207, qv_e207, qv_a207, show Cond.methodLink _ _ _ ∈ lw_tbl from qv_in7 (List.mem_of_getElem? (i := 82) rfl), qv_i207, qv_s207, qv_n207, Or.inr ⟨12, 63, rfl, by decide, rfl⟩⟩
set_option maxRecDepth 100000 in
theorem qv_v214 : qv_V 20 250 206 2 0 12 := ⟨by decide, qx_e206, qv_e206, qv_a206, show Cond.methodLink _ _ _ ∈ lw_tbl from qv_in7 (List.mem_of_getElem? (i := 78) rfl), qv_i206, qv_s206, qv_n206, Or.inr ⟨12, 63, rfl, by decide, rfl⟩⟩
set_option maxRecDepth 100000 in
theorem qv_v215 : qv_V 20 253 205 4 0 12 := ⟨by decide, qx_e205, qv_e205, qv_a205, show Cond.methodLink _ _ _ ∈ lw_tbl from qv_in7 (List.mem_of_getElem? (i := 74) rfl), qv_i205, qv_s205, qv_n205, Or.inr ⟨12, 63, rfl, by decide, rfl⟩⟩
set_option maxRecDepth 100000 in
theorem qv_v216 : qv_V 20 260 209 3 0 12 := ⟨by decide, qx_e209, qv_e209, qv_a209, show Cond.methodLink _ _ _ ∈ lw_tbl from qv_in7 (List.mem_of_getElem? (i := 90) rfl), qv_i209, qv_s209, qv_n209, Or.inr ⟨12, 63, rfl, by decide, rfl⟩⟩
set_option maxRecDepth 100000 in
theorem qv_v217 : qv_V 20 280 220 0 0 12 := ⟨by decide, qx_e220, qv_e220, qv_a220, show Cond.methodLink _ _ _ ∈ lw_tbl from qv_in7 (List.mem_of_getElem? (i := 135) rfl), qv_i220, qv_s220, qv_n220, Or.inr ⟨12, 63, rfl, by decide, rfl⟩⟩
set_option maxRecDepth 100000 in
theorem qv_v218 : qv_V 20 284 215 0 0 12 := ⟨by decide, qx_e215, qv_e215, qv_a215, show Cond.methodLink _ _ _ ∈ lw_tbl from qv_in7 (List.mem_of_getElem? (i := 115) rfl), qv_i215, qv_s215, qv_n215, Or.inr ⟨12, 63, rfl, by decide, rfl⟩⟩
set_option maxRecDepth 100000 in
theorem qv_v219 : qv_V 20 287 222 1 0 12 := ⟨by decide, qx_e222, qv_e222, qv_a222, show Cond.methodLink _ _ _ ∈ lw_tbl from qv_in7 (List.mem_of_getElem? (i := 143) rfl), qv_i222, qv_s222, qv_n222, Or.inr ⟨12, 63, rfl, by decide, rfl⟩⟩
set_option maxRecDepth 100000 in
theorem qv_v220 : qv_V 20 290 216 0 0 12 := ⟨by decide, qx_e216, qv_e216, qv_a216, show Cond.methodLink _ _ _ ∈ lw_tbl from qv_in7 (List.mem_of_getElem? (i := 119) rfl), qv_i216, qv_s216, qv_n216, Or.inr ⟨12, 63, rfl, by decide, rfl⟩⟩
set_option maxRecDepth 100000 in
theorem qv_v221 : qv_V 20 293 217 0 0 12 := ⟨by decide, qx_e217, qv_e217, qv_a217, show Cond.methodLink _ _ _ ∈ lw_tbl from qv_in7 (List.mem_of_getElem? (i := 123) rfl), qv_i217, qv_s217, qv_n217, Or.inr ⟨12, 63, rfl, by decide, rfl⟩⟩
set_option maxRecDepth 100000 in
theorem qv_v222 : qv_V 20 296 218 0 0 12 := ⟨by decide, qx_e218, qv_e218, qv_a218, show Cond.methodLink _ _ _ ∈ lw_tbl from qv_in7 (List.mem_of_getElem? (i := 127) rfl), qv_i218, qv_s218, qv_n218, Or.inr ⟨12, 63, rfl, by decide, rfl⟩⟩
set_option maxRecDepth 100000 in
theorem qv_v223 : qv_V 20 299 219 0 0 12 := ⟨by decide, qx_e219, qv_e219, qv_a219, show Cond.methodLink _ _ _ ∈ lw_tbl from qv_in7 (List.mem_of_getElem? (i := 131) rfl), qv_i219, qv_s219, qv_n219, Or.inr ⟨12, 63, rfl, by decide, rfl⟩⟩
set_option maxRecDepth 100000 in
theorem qv_v224 : qv_V 20 305 221 0 0 12 := ⟨by decide, qx_e221, qv_e221, qv_a221, show Cond.methodLink _ _ _ ∈ lw_tbl from qv_in7 (List.mem_of_getElem? (i := 139) rfl), qv_i221, qv_s221, qv_n221, Or.inr ⟨12, 63, rfl, by decide, rfl⟩⟩
set_option maxRecDepth 100000 in
theorem qv_v225 : qv_V 20 308 214 0 0 12 := ⟨by decide, qx_e214, qv_e214, qv_a214, show Cond.methodLink _ _ _ ∈ lw_tbl from qv_in7 (List.mem_of_getElem? (i := 111) rfl), qv_i214, qv_s214, qv_n214, Or.inr ⟨12, 63, rfl, by decide, rfl⟩⟩
set_option maxRecDepth 100000 in
theorem qv_v226 : qv_V 20 314 213 2 0 12 := ⟨by decide, qx_e213, qv_e213, qv_a213, show Cond.methodLink _ _ _ ∈ lw_tbl from qv_in7 (List.mem_of_getElem? (i := 107) rfl), qv_i213, qv_s213, qv_n213, Or.inr ⟨12, 63, rfl, by decide, rfl⟩⟩
set_option maxRecDepth 100000 in
theorem qv_v227 : qv_V 20 320 228 6 0 12 := ⟨by decide, qx_e228, qv_e228, qv_a228, show Cond.methodLink _ _ _ ∈ lw_tbl from qv_in7 (List.mem_of_getElem? (i := 166) rfl), qv_i228, qv_s228, qv_n228, Or.inr ⟨12, 63, rfl, by decide, rfl⟩⟩
set_option maxRecDepth 100000 in
theorem qv_v228 : qv_V 20 324 225 1 0 12 := ⟨by decide, qx_e225, qv_e225, qv_a225, show Cond.methodLink _ _ _ ∈ lw_tbl from qv_in7 (List.mem_of_getElem? (i := 154) rfl), qv_i225, qv_s225, qv_n225, Or.inr ⟨12, 63, rfl, by decide, rfl⟩⟩
set_option maxRecDepth 100000 in
theorem qv_v229 : qv_V 20 333 227 4 0 12 := ⟨by decide, qx_e227, qv_e227, qv_a227, show Cond.methodLink _ _ _ ∈ lw_tbl from qv_in7 (List.mem_of_getElem? (i := 162) rfl), qv_i227, qv_s227, qv_n227, Or.inr ⟨12, 63, rfl, by decide, rfl⟩⟩
set_option maxRecDepth 100000 in
theorem qv_v230 : qv_V 20 342 232 3 0 12 := ⟨by decide, qx_e232, qv_e232, qv_a232, show Cond.methodLink _ _ _ ∈ lw_tbl from qv_in7 (List.mem_of_getElem? (i := 182) rfl), qv_i232, qv_s232, qv_n232, Or.inr ⟨12, 63, rfl, by decide, rfl⟩⟩
set_option maxRecDepth 100000 in
theorem qv_v231 : qv_V 20 348 234 2 0 12 := ⟨by decide, qx_e234, qv_e234, qv_a234, show Cond.methodLink _ _ _ ∈ lw_tbl from qv_in7 (List.mem_of_getElem? (i := 190) rfl), qv_i234, qv_s234, qv_n234, Or.inr ⟨12, 63, rfl, by decide, rfl⟩⟩
set_option maxRecDepth 100000 in
theorem qv_v232 : qv_V 20 351 235 1 0 12 := ⟨by decide, qx_e235, qv_e235, qv_a235, show Cond.methodLink _ _ _ ∈ lw_tbl from qv_in7 (List.mem_of_getElem? (i := 194) rfl), qv_i235, qv_s235, qv_n235, Or.inr ⟨12, 63, rfl, by decide, rfl⟩⟩
set_option maxRecDepth 100000 in
theorem qv_v233 : qv_V 20 360 237 1 0 12 := ⟨by decide, qx_e237, qv_e237, qv_a237, show Cond.methodLink _ _ _ ∈ lw_tbl from qv_in7 (List.mem_of_getElem? (i := 202) rfl), qv_i237, qv_s237, qv_n237, Or.inr ⟨12, 63, rfl, by decide, rfl⟩⟩
set_option maxRecDepth 100000 in
theorem qv_v234 : qv_V 20 364 240 1 0 12 := ⟨by decide, qx_e240, qv_e240, qv_a240, show Cond.methodLink _ _ _ ∈ lw_tbl from qv_in7 (List.mem_of_getElem? (i := 214) rfl), qv_i240, qv_s240, qv_n240, Or.inr ⟨12, 63, rfl, by decide, rfl⟩⟩
set_option maxRecDepth 100000 in
theorem qv_v235 : qv_V 20 369 244 3 0 12 := ⟨by decide, qx_e244, qv_e244, qv_a244, show Cond.methodLink _ _ _ ∈ lw_tbl from qv_in7 (List.mem_of_getElem? (i := 233) rfl), qv_i244, qv_s244, qv_n244, Or.inr ⟨12, 63, rfl, by decide, rfl⟩⟩
set_option maxRecDepth 100000 in
theorem qv_v236 : qv_V 20 372 243 4 0 12 := ⟨by decide, qx_e243, qv_e243, qv_a243, show Cond.methodLink _ _ _ ∈ lw_tbl from qv_in7 (List.mem_of_getElem? (i := 229) rfl), qv_i243, qv_s243, qv_n243, Or.inr ⟨12, 63, rfl, by decide, rfl⟩⟩
set_option maxRecDepth 100000 in
theorem qv_v237 : qv_V 20 382 249 4 0 12 := ⟨by decide, qx_e249, qv_e249, qv_a249, show Cond.methodLink _ _ _ ∈ lw_tbl from qv_in8 (List.mem_of_getElem? (i := 13) rfl), qv_i249, qv_s249, qv_n249, Or.inr ⟨12, 63, rfl, by decide, rfl⟩⟩
set_option maxRecDepth 100000 in
theorem qv_v238 : qv_V 20 386 247 4 0 12 := ⟨by decide, qx_e247, qv_e247, qv_a247, show Cond.methodLink _ _ _ ∈ lw_tbl from qv_in8 (List.mem_of_getElem? (i := 5) rfl), qv_i247, qv_s247, qv_n247, Or.inr ⟨12, 63, rfl, by decide, rfl⟩⟩
set_option maxRecDepth 100000 in
theorem qv_v239 : qv_V 20 390 248 2 0 12 := ⟨by decide, qx_e248, qv_e248, qv_a248, show Cond.methodLink _ _ _ ∈ lw_tbl from qv_in8 (List.mem_of_getElem? (i := 9) rfl), qv_i248, qv_s248, qv_n248, Or.inr ⟨12, 63, rfl, by decide, rfl⟩⟩
set_option maxRecDepth 100000 in
theorem qv_v240 : qv_V 20 394 246 4 0 12 := ⟨by decide, qx_e246, qv_e246, qv_a246, show Cond.methodLink _ _ _ ∈ lw_tbl from qv_in8 (List.mem_of_getElem? (i := 1) rfl), qv_i246, qv_s246, qv_n246, Or.inr ⟨12, 63, rfl, by decide, rfl⟩⟩
set_option maxRecDepth 100000 in
theorem qv_v241 : qv_V 20 405 257 1 0 12 := ⟨by decide, qx_e257, qv_e257, qv_a257, show Cond.methodLink _ _ _ ∈ lw_tbl from qv_in8 (List.mem_of_getElem? (i := 44) rfl), qv_i257, qv_s257, qv_n257, Or.inr ⟨12, 63, rfl, by decide, rfl⟩⟩
set_option maxRecDepth 100000 in
theorem qv_v242 : qv_V 20 408 256 2 0 12 := ⟨by decide, qx_e256, qv_e256, qv_a256, show Cond.methodLink _ _ _ ∈ lw_tbl from qv_in8 (List.mem_of_getElem? (i := 40) rfl), qv_i256, qv_s256, qv_n256, Or.inr ⟨12, 63, rfl, by decide, rfl⟩⟩
set_option maxRecDepth 100000 in
theorem qv_v243 : qv_V 20 414 258 2 0 12 := ⟨by decide, qx_e258, qv_e258, qv_a258, show Cond.methodLink _ _ _ ∈ lw_tbl from qv_in8 (List.mem_of_getElem? (i := 48) rfl), qv_i258, qv_s258, qv_n258, Or.inr ⟨12, 63, rfl, by decide, rfl⟩⟩
set_option maxRecDepth 100000 in
theorem qv_v244 : qv_V 20 420 259 2 0 12 := ⟨by decide, qx_e259, qv_e259, qv_a259, show Cond.methodLink _ _ _ ∈ lw_tbl from qv_in8 (List.mem_of_getElem? (i := 52) rfl), qv_i259, qv_s259, qv_n259, Or.inr ⟨12, 63, rfl, by decide, rfl⟩⟩
set_option maxRecDepth 100000 in
theorem qv_v245 : qv_V 20 423 260 2 0 12 := ⟨by decide, qx_e260, qv_e260, qv_a260, show Cond.methodLink _ _ _ ∈ lw_tbl from qv_in8 (List.mem_of_getElem? (i := 56) rfl), qv_i260, qv_s260, qv_n260, Or.inr ⟨12, 63, rfl, by decide, rfl⟩⟩
set_option maxRecDepth 100000 in
theorem qv_v246 : qv_V 20 428 265 2 0 12 := ⟨by decide, qx_e265, qv_e265, qv_a265, show Cond.methodLink _ _ _ ∈ lw_tbl from qv_in8 (List.mem_of_getElem? (i := 76) rfl), qv_i265, qv_s265, qv_n265, Or.inr ⟨12, 63, rfl, by decide, rfl⟩⟩
set_option maxRecDepth 100000 in
theorem qv_u0 : qv_U 1 165 50 2 2 := ⟨by decide, qx_e50, qv_e50, qv_a50, show Cond.methodLink _ _ _ ∈ lw_tbl from qv_in3 (List.mem_of_getElem? (i := 159) rfl), qv_t50, qv_n50⟩
set_option maxRecDepth 100000 in
theorem qv_u1 : qv_U 1 169 41 1 2 := ⟨by decide, qx_e41, qv_e41, qv_a41, show Cond.methodLink _ _ _ ∈ lw_tbl from qv_in3 (List.mem_of_getElem? (i := 166) rfl), qv_t41, qv_n41⟩
set_option maxRecDepth 100000 in
theorem qv_u2 : qv_U 1 187 62 1 2 := ⟨by decide, qx_e62, qv_e62, qv_a62, show Cond.methodLink _ _ _ ∈ lw_tbl from qv_in3 (List.mem_of_getElem? (i := 214) rfl), qv_t62, qv_n62⟩
set_option maxRecDepth 100000 in
theorem qv_u3 : qv_U 1 199 70 1 2 := ⟨by decide, qx_e70, qv_e70, qv_a70, show Cond.methodLink _ _ _ ∈ lw_tbl from qv_in4 (List.mem_of_getElem? (i := 6) rfl), qv_t70, qv_n70⟩
set_option maxRecDepth 100000 in
theorem qv_u4 : qv_U 1 226 74 1 2 := ⟨by decide, qx_e74, qv_e74, qv_a74, show Cond.methodLink _ _ _ ∈ lw_tbl from qv_in4 (List.mem_of_getElem? (i := 21) rfl), qv_t74, qv_n74⟩
set_option maxRecDepth 100000 in
theorem qv_u5 : qv_U 1 243 82 1 2 := ⟨by decide, qx_e82, qv_e82, qv_a82, show Cond.methodLink _ _ _ ∈ lw_tbl from qv_in4 (List.mem_of_getElem? (i := 57) rfl), qv_t82, qv_n82⟩
set_option maxRecDepth 100000 in
theorem qv_u6 : qv_U 1 265 100 1 2 := ⟨by decide, qx_e100, qv_e100, qv_a100, show Cond.methodLink _ _ _ ∈ lw_tbl from qv_in4 (List.mem_of_getElem? (i := 141) rfl), qv_t100, qv_n100⟩
set_option maxRecDepth 100000 in
theorem qv_u7 : qv_U 1 278 109 2 2 := ⟨by decide, qx_e109, qv_e109, qv_a109, show Cond.methodLink _ _ _ ∈ lw_tbl from qv_in4 (List.mem_of_getElem? (i := 179) rfl), qv_t109, qv_n109⟩
set_option maxRecDepth 100000 in
theorem qv_u8 : qv_U 1 388 169 2 2 := ⟨by decide, qx_e169, qv_e169, qv_a169, show Cond.methodLink _ _ _ ∈ lw_tbl from qv_in5 (List.mem_of_getElem? (i := 210) rfl), qv_t169, qv_n169⟩
theorem qv_u9 : qv_U 2 40 41 1 3 := ⟨by decide, qx_e41, qv_e41, qv_a41, ⟨"OneRoof", List.mem_of_getElem? (i := 6) rfl⟩, qv_t41, qv_n41⟩
theorem qv_u10 : qv_U 2 43 50 2 3 := ⟨by decide, qx_e50, qv_e50, qv_a50, ⟨"OneRoof", List.mem_of_getElem? (i := 9) rfl⟩, qv_t50, qv_n50⟩
set_option maxRecDepth 100000 in
theorem qv_u11 : qv_U 3 19 4 2 2 := ⟨by decide, qx_e4, qv_e4, qv_a4, show Cond.methodLink _ _ _ ∈ lw_tbl from qv_in1 (List.mem_of_getElem? (i := 83) rfl), qv_t4, qv_n4⟩
set_option maxRecDepth 100000 in
theorem qv_u12 : qv_U 3 29 12 2 2 := ⟨by decide, qx_e12, qv_e12, qv_a12, show Cond.methodLink _ _ _ ∈ lw_tbl from qv_in3 (List.mem_of_getElem? (i := 201) rfl), qv_t12, qv_n12⟩
set_option maxRecDepth 100000 in
theorem qv_u13 : qv_U 5 51 12 2 2 := ⟨by decide, qx_e12, qv_e12, qv_a12, show Cond.methodLink _ _ _ ∈ lw_tbl from qv_in4 (List.mem_of_getElem? (i := 1) rfl), qv_t12, qv_n12⟩
set_option maxRecDepth 100000 in
theorem qv_u14 : qv_U 5 62 74 1 2 := ⟨by decide, qx_e74, qv_e74, qv_a74, show Cond.methodLink _ _ _ ∈ lw_tbl from qv_in5 (List.mem_of_getElem? (i := 2) rfl), qv_t74, qv_n74⟩
theorem qv_u15 : qv_U 5 68 50 2 3 := ⟨by decide, qx_e50, qv_e50, qv_a50, ⟨"OneRoof", List.mem_of_getElem? (i := 12) rfl⟩, qv_t50, qv_n50⟩
theorem qv_u16 : qv_U 6 51 50 2 3 := ⟨by decide, qx_e50, qv_e50, qv_a50, ⟨"OneRoof", List.mem_of_getElem? (i := 13) rfl⟩, qv_t50, qv_n50⟩
set_option maxRecDepth 100000 in
theorem qv_u17 : qv_U 8 32 162 2 2 := ⟨by decide, qx_e162, qv_e162, qv_a162, show Cond.methodLink _ _ _ ∈ lw_tbl from qv_in5 (List.mem_of_getElem? (i := 180) rfl), qv_t162, qv_n162⟩
set_option maxRecDepth 100000 in
theorem qv_u18 : qv_U 9 43 12 2 2 := ⟨by decide, qx_e12, qv_e12, qv_a12, show Cond.methodLink _ _ _ ∈ lw_tbl from qv_in1 (List.mem_of_getElem? (i := 223) rfl), qv_t12, qv_n12⟩
theorem qv_u19 : qv_U 9 56 50 2 3 := ⟨by decide, qx_e50, qv_e50, qv_a50, ⟨"OneRoof", List.mem_of_getElem? (i := 8) rfl⟩, qv_t50, qv_n50⟩
set_option maxRecDepth 100000 in
theorem qv_u20 : qv_U 9 87 33 1 2 := ⟨by decide, qx_e33, qv_e33, qv_a33, show Cond.methodLink _ _ _ ∈ lw_tbl from qv_in2 (List.mem_of_getElem? (i := 117) rfl), qv_t33, qv_n33⟩
set_option maxRecDepth 100000 in
theorem qv_u21 : qv_U 9 91 23 1 2 := ⟨by decide, qx_e23, qv_e23, qv_a23, show Cond.methodLink _ _ _ ∈ lw_tbl from qv_in2 (List.mem_of_getElem? (i := 44) rfl), qv_t23, qv_n23⟩
set_option maxRecDepth 100000 in
theorem qv_u22 : qv_U 9 104 30 2 2 := ⟨by decide, qx_e30, qv_e30, qv_a30, show Cond.methodLink _ _ _ ∈ lw_tbl from qv_in4 (List.mem_of_getElem? (i := 133) rfl), qv_t30, qv_n30⟩
set_option maxRecDepth 100000 in
theorem qv_u23 : qv_U 9 107 98 3 2 := ⟨by decide, qx_e98, qv_e98, qv_a98, show Cond.methodLink _ _ _ ∈ lw_tbl from qv_in4 (List.mem_of_getElem? (i := 134) rfl), qv_t98, qv_n98⟩
set_option maxRecDepth 100000 in
theorem qv_u24 : qv_U 10 495 15 2 2 := ⟨by decide, qx_e15, qv_e15, qv_a15, show Cond.methodLink _ _ _ ∈ lw_tbl from qv_in1 (List.mem_of_getElem? (i := 234) rfl), qv_t15, qv_n15⟩
set_option maxRecDepth 100000 in
theorem qv_u25 : qv_U 10 637 28 4 2 := ⟨by decide, qx_e28, qv_e28, qv_a28, show Cond.methodLink _ _ _ ∈ lw_tbl from qv_in2 (List.mem_of_getElem? (i := 65) rfl), qv_t28, qv_n28⟩
set_option maxRecDepth 100000 in
theorem qv_u26 : qv_U 10 1059 17 3 2 := ⟨by decide, qx_e17, qv_e17, qv_a17, show Cond.methodLink _ _ _ ∈ lw_tbl from qv_in2 (List.mem_of_getElem? (i := 2) rfl), qv_t17, qv_n17⟩
set_option maxRecDepth 100000 in
theorem qv_u27 : qv_U 12 9 16 2 2 := ⟨by decide, qx_e16, qv_e16, qv_a16, show Cond.methodLink _ _ _ ∈ lw_tbl from qv_in1 (List.mem_of_getElem? (i := 237) rfl), qv_t16, qv_n16⟩
set_option maxRecDepth 100000 in
theorem qv_u28 : qv_U 12 38 12 2 2 := ⟨by decide, qx_e12, qv_e12, qv_a12, show Cond.methodLink _ _ _ ∈ lw_tbl from qv_in2 (List.mem_of_getElem? (i := 74) rfl), qv_t12, qv_n12⟩
set_option maxRecDepth 100000 in
theorem qv_u29 : qv_U 12 88 29 1 2 := ⟨by decide, qx_e29, qv_e29, qv_a29, show Cond.methodLink _ _ _ ∈ lw_tbl from qv_in2 (List.mem_of_getElem? (i := 68) rfl), qv_t29, qv_n29⟩
set_option maxRecDepth 100000 in
theorem qv_u30 : qv_U 12 92 30 2 2 := ⟨by decide, qx_e30, qv_e30, qv_a30, show Cond.methodLink _ _ _ ∈ lw_tbl from qv_in2 (List.mem_of_getElem? (i := 71) rfl), qv_t30, qv_n30⟩
set_option maxRecDepth 100000 in
theorem qv_u31 : qv_U 12 95 31 4 2 := ⟨by decide, qx_e31, qv_e31, qv_a31, show Cond.methodLink _ _ _ ∈ lw_tbl from qv_in2 (List.mem_of_getElem? (i := 75) rfl), qv_t31, qv_n31⟩
set_option maxRecDepth 100000 in
theorem qv_u32 : qv_U 14 70 12 2 2 := ⟨by decide, qx_e12, qv_e12, qv_a12, show Cond.methodLink _ _ _ ∈ lw_tbl from qv_in4 (List.mem_of_getElem? (i := 107) rfl), qv_t12, qv_n12⟩
set_option maxRecDepth 100000 in
theorem qv_u33 : qv_U 14 76 30 2 2 := ⟨by decide, qx_e30, qv_e30, qv_a30, show Cond.methodLink _ _ _ ∈ lw_tbl from qv_in4 (List.mem_of_getElem? (i := 108) rfl), qv_t30, qv_n30⟩
set_option maxRecDepth 100000 in
theorem qv_u34 : qv_U 14 79 93 2 2 := ⟨by decide, qx_e93, qv_e93, qv_a93, show Cond.methodLink _ _ _ ∈ lw_tbl from qv_in4 (List.mem_of_getElem? (i := 104) rfl), qv_t93, qv_n93⟩
set_option maxRecDepth 100000 in
theorem qv_u35 : qv_U 14 102 74 1 2 := ⟨by decide, qx_e74, qv_e74, qv_a74, show Cond.methodLink _ _ _ ∈ lw_tbl from qv_in4 (List.mem_of_getElem? (i := 116) rfl), qv_t74, qv_n74⟩
theorem qv_u36 : qv_U 14 120 50 2 3 := ⟨by decide, qx_e50, qv_e50, qv_a50, ⟨"OneRoof", List.mem_of_getElem? (i := 10) rfl⟩, qv_t50, qv_n50⟩
theorem qv_u37 : qv_U 15 38 50 2 3 := ⟨by decide, qx_e50, qv_e50, qv_a50, ⟨"OneRoof", List.mem_of_getElem? (i := 11) rfl⟩, qv_t50, qv_n50⟩
set_option maxRecDepth 100000 in
theorem qv_u38 : qv_U 15 42 4 2 2 := ⟨by decide, qx_e4, qv_e4, qv_a4, show Cond.methodLink _ _ _ ∈ lw_tbl from qv_in4 (List.mem_of_getElem? (i := 191) rfl), qv_t4, qv_n4⟩
set_option maxRecDepth 100000 in
theorem qv_u39 : qv_U 15 70 115 1 2 := ⟨by decide, qx_e115, qv_e115, qv_a115, show Cond.methodLink _ _ _ ∈ lw_tbl from qv_in4 (List.mem_of_getElem? (i := 205) rfl), qv_t115, qv_n115⟩
set_option maxRecDepth 100000 in
theorem qv_u40 : qv_U 15 84 83 1 2 := ⟨by decide, qx_e83, qv_e83, qv_a83, show Cond.methodLink _ _ _ ∈ lw_tbl from qv_in4 (List.mem_of_getElem? (i := 228) rfl), qv_t83, qv_n83⟩
set_option maxRecDepth 100000 in
theorem qv_u41 : qv_U 15 87 30 2 2 := ⟨by decide, qx_e30, qv_e30, qv_a30, show Cond.methodLink _ _ _ ∈ lw_tbl from qv_in4 (List.mem_of_getElem? (i := 229) rfl), qv_t30, qv_n30⟩
theorem qv_u42 : qv_U 16 68 50 2 3 := ⟨by decide, qx_e50, qv_e50, qv_a50, ⟨"OneRoof", List.mem_of_getElem? (i := 14) rfl⟩, qv_t50, qv_n50⟩
theorem qv_u43 : qv_U 17 71 50 2 3 := ⟨by decide, qx_e50, qv_e50, qv_a50, ⟨"OneRoof", List.mem_of_getElem? (i := 7) rfl⟩, qv_t50, qv_n50⟩
set_option maxRecDepth 100000 in
theorem qv_u44 : qv_U 18 311 83 1 2 := ⟨by decide, qx_e83, qv_e83, qv_a83, show Cond.methodLink _ _ _ ∈ lw_tbl from qv_in4 (List.mem_of_getElem? (i := 60) rfl), qv_t83, qv_n83⟩
set_option maxRecDepth 100000 in
theorem qv_u45 : qv_U 20 5 176 3 2 := ⟨by decide, qx_e176, qv_e176, qv_a176, show Cond.methodLink _ _ _ ∈ lw_tbl from qv_in6 (List.mem_of_getElem? (i := 191) rfl), qv_t176, qv_n176⟩
set_option maxRecDepth 100000 in
theorem qv_u46 : qv_U 20 158 178 1 2 := ⟨by decide, qx_e178, qv_e178, qv_a178, show Cond.methodLink _ _ _ ∈ lw_tbl from qv_in6 (List.mem_of_getElem? (i := 199) rfl), qv_t178, qv_n178⟩
set_option maxRecDepth 100000 in
theorem qv_u47 : qv_U 20 200 192 1 2 := ⟨by decide, qx_e192, qv_e192, qv_a192, show Cond.methodLink _ _ _ ∈ lw_tbl from qv_in7 (List.mem_of_getElem? (i := 17) rfl), qv_t192, qv_n192⟩
set_option maxRecDepth 100000 in
theorem qv_u48 : qv_U 20 311 223 1 2 := ⟨by decide, qx_e223, qv_e223, qv_a223, show Cond.methodLink _ _ _ ∈ lw_tbl from qv_in7 (List.mem_of_getElem? (i := 147) rfl), qv_t223, qv_n223⟩
set_option maxRecDepth 100000 in
theorem qv_u49 : qv_U 20 329 226 2 2 := ⟨by decide, qx_e226, qv_e226, qv_a226, show Cond.methodLink _ _ _ ∈ lw_tbl from qv_in7 (List.mem_of_getElem? (i := 159) rfl), qv_t226, qv_n226⟩
set_option maxRecDepth 100000 in
theorem qv_u50 : qv_U 20 337 230 1 2 := ⟨by decide, qx_e230, qv_e230, qv_a230, show Cond.methodLink _ _ _ ∈ lw_tbl from qv_in7 (List.mem_of_getElem? (i := 174) rfl), qv_t230, qv_n230⟩
set_option maxRecDepth 100000 in
theorem qv_u51 : qv_U 20 355 236 1 2 := ⟨by decide, qx_e236, qv_e236, qv_a236, show Cond.methodLink _ _ _ ∈ lw_tbl from qv_in7 (List.mem_of_getElem? (i := 198) rfl), qv_t236, qv_n236⟩
set_option maxRecDepth 100000 in
theorem qv_u52 : qv_U 20 398 253 1 2 := ⟨by decide, qx_e253, qv_e253, qv_a253, show Cond.methodLink _ _ _ ∈ lw_tbl from qv_in8 (List.mem_of_getElem? (i := 29) rfl), qv_t253, qv_n253⟩
set_option maxRecDepth 100000 in
theorem qv_u53 : qv_U 20 431 266 2 2 := ⟨by decide, qx_e266, qv_e266, qv_a266, show Cond.methodLink _ _ _ ∈ lw_tbl from qv_in8 (List.mem_of_getElem? (i := 80) rfl), qv_t266, qv_n266⟩
set_option maxRecDepth 100000 in
theorem qv_u54 : qv_U 20 441 270 1 2 := ⟨by decide, qx_e270, qv_e270, qv_a270, show Cond.methodLink _ _ _ ∈ lw_tbl from qv_in8 (List.mem_of_getElem? (i := 97) rfl), qv_t270, qv_n270⟩
set_option maxRecDepth 100000 in
theorem qv_w0 : qv_N 0 9 1 0 4 := ⟨by decide, qx_e1, qv_e1, qv_a1, show Cond.methodLink _ _ _ ∈ lw_tbl from qv_in1 (List.mem_of_getElem? (i := 27) rfl), qv_i1, qv_n1, rfl, rfl⟩
set_option maxRecDepth 100000 in
theorem qv_w1 : qv_N 0 12 171 0 4 := ⟨by decide, qx_e171, qv_e171, qv_a171, show Cond.methodLink _ _ _ ∈ lw_tbl from qv_in5 (List.mem_of_getElem? (i := 219) rfl), qv_i171, qv_n171, rfl, rfl⟩
theorem qv_w2 : qv_N 1 9 2 0 5 := ⟨by decide, qx_e2, qv_e2, qv_a2, ⟨"OneRoof", List.mem_of_getElem? (i := 0) rfl⟩, qv_i2, qv_n2, rfl, rfl⟩
set_option maxRecDepth 100000 in
theorem qv_w3 : qv_N 1 18 3 0 4 := ⟨by decide, qx_e3, qv_e3, qv_a3, show Cond.methodLink _ _ _ ∈ lw_tbl from qv_in1 (List.mem_of_getElem? (i := 79) rfl), qv_i3, qv_n3, rfl, rfl⟩
theorem qv_w4 : qv_N 1 28 5 0 5 := ⟨by decide, qx_e5, qv_e5, qv_a5, ⟨"OneRoof", List.mem_of_getElem? (i := 2) rfl⟩, qv_i5, qv_n5, rfl, rfl⟩
theorem qv_w5 : qv_N 1 35 6 0 5 := ⟨by decide, qx_e6, qv_e6, qv_a6, ⟨"OneRoof", List.mem_of_getElem? (i := 3) rfl⟩, qv_i6, qv_n6, rfl, rfl⟩
theorem qv_w6 : qv_N 1 42 7 0 5 := ⟨by decide, qx_e7, qv_e7, qv_a7, ⟨"OneRoof", List.mem_of_getElem? (i := 4) rfl⟩, qv_i7, qv_n7, rfl, rfl⟩
theorem qv_w7 : qv_N 1 49 8 0 5 := ⟨by decide, qx_e8, qv_e8, qv_a8, ⟨"OneRoof", List.mem_of_getElem? (i := 5) rfl⟩, qv_i8, qv_n8, rfl, rfl⟩
set_option maxRecDepth 100000 in
theorem qv_w8 : qv_N 1 58 9 1 4 := ⟨by decide, qx_e9, qv_e9, qv_a9, show Cond.methodLink _ _ _ ∈ lw_tbl from qv_in1 (List.mem_of_getElem? (i := 209) rfl), qv_i9, qv_n9, rfl, rfl⟩
set_option maxRecDepth 100000 in
theorem qv_w9 : qv_N 1 69 34 5 4 := ⟨by decide, qx_e34, qv_e34, qv_a34, show Cond.methodLink _ _ _ ∈ lw_tbl from qv_in2 (List.mem_of_getElem? (i := 150) rfl), qv_i34, qv_n34, rfl, rfl⟩
set_option maxRecDepth 100000 in
theorem qv_w10 : qv_N 1 78 35 1 4 := ⟨by decide, qx_e35, qv_e35, qv_a35, show Cond.methodLink _ _ _ ∈ lw_tbl from qv_in2 (List.mem_of_getElem? (i := 202) rfl), qv_i35, qv_n35, rfl, rfl⟩
set_option maxRecDepth 100000 in
theorem qv_w11 : qv_N 1 87 36 1 4 := ⟨by decide, qx_e36, qv_e36, qv_a36, show Cond.methodLink _ _ _ ∈ lw_tbl from qv_in2 (List.mem_of_getElem? (i := 233) rfl), qv_i36, qv_n36, rfl, rfl⟩
set_option maxRecDepth 100000 in
theorem qv_w12 : qv_N 1 97 37 3 4 := ⟨by decide, qx_e37, qv_e37, qv_a37, show Cond.methodLink _ _ _ ∈ lw_tbl from qv_in3 (List.mem_of_getElem? (i := 26) rfl), qv_i37, qv_n37, rfl, rfl⟩
def qv_vl_0 : List (Nat × Nat × Nat × Nat × Nat × Nat) := [(0, 13, 38, 3, 0, 0), (0, 17, 174, 3, 0, 12), (0, 18, 43, 3, 0, 0), (0, 21, 177, 3, 0, 12), (0, 22, 49, 2, 0, 0), (0, 26, 179, 2, 0, 12), (0, 27, 51, 2, 0, 0), (0, 30, 182, 2, 0, 12)]
theorem qv_vl_0_ok : ∀ e ∈ qv_vl_0, qv_V e.1 e.2.1 e.2.2.1 e.2.2.2.1 e.2.2.2.2.1 e.2.2.2.2.2 := List.forall_mem_cons.mpr ⟨qv_v0, List.forall_mem_cons.mpr ⟨qv_v1, List.forall_mem_cons.mpr ⟨qv_v2, List.forall_mem_cons.mpr ⟨qv_v3, List.forall_mem_cons.mpr ⟨qv_v4, List.forall_mem_cons.mpr ⟨qv_v5, List.forall_mem_cons.mpr ⟨qv_v6, List.forall_mem_cons.mpr ⟨qv_v7, fun _ h => absurd h List.not_mem_nil⟩⟩⟩⟩⟩⟩⟩⟩
def qv_vl_1 : List (Nat × Nat × Nat × Nat × Nat × Nat) := [(0, 31, 56, 2, 0, 0), (0, 34, 184, 2, 0, 12), (0, 35, 59, 2, 0, 0), (0, 38, 186, 2, 0, 12), (0, 39, 60, 3, 0, 0), (0, 42, 190, 3, 0, 12), (0, 43, 64, 2, 0, 0), (0, 46, 193, 2, 0, 12)]
theorem qv_vl_1_ok : ∀ e ∈ qv_vl_1, qv_V e.1 e.2.1 e.2.2.1 e.2.2.2.1 e.2.2.2.2.1 e.2.2.2.2.2 := List.forall_mem_cons.mpr ⟨qv_v8, List.forall_mem_cons.mpr ⟨qv_v9, List.forall_mem_cons.mpr ⟨qv_v10, List.forall_mem_cons.mpr ⟨qv_v11, List.forall_mem_cons.mpr ⟨qv_v12, List.forall_mem_cons.mpr ⟨qv_v13, List.forall_mem_cons.mpr ⟨qv_v14, List.forall_mem_cons.mpr ⟨qv_v15, fun _ h => absurd h List.not_mem_nil⟩⟩⟩⟩⟩⟩⟩⟩
def qv_vl_2 : List (Nat × Nat × Nat × Nat × Nat × Nat) := [(0, 47, 65, 4, 0, 0), (0, 51, 194, 4, 0, 12), (0, 54, 69, 4, 0, 0), (0, 58, 198, 4, 0, 12), (0, 59, 72, 2, 0, 0), (0, 62, 199, 2, 0, 12), (0, 63, 75, 3, 0, 0), (0, 66, 203, 3, 0, 12)]
theorem qv_vl_2_ok : ∀ e ∈ qv_vl_2, qv_V e.1 e.2.1 e.2.2.1 e.2.2.2.1 e.2.2.2.2.1 e.2.2.2.2.2 := List.forall_mem_cons.mpr ⟨qv_v16, List.forall_mem_cons.mpr ⟨qv_v17, List.forall_mem_cons.mpr ⟨qv_v18, List.forall_mem_cons.mpr ⟨qv_v19, List.forall_mem_cons.mpr ⟨qv_v20, List.forall_mem_cons.mpr ⟨qv_v21, List.forall_mem_cons.mpr ⟨qv_v22, List.forall_mem_cons.mpr ⟨qv_v23, fun _ h => absurd h List.not_mem_nil⟩⟩⟩⟩⟩⟩⟩⟩
def qv_vl_3 : List (Nat × Nat × Nat × Nat × Nat × Nat) := [(0, 67, 76, 3, 0, 0), (0, 70, 204, 3, 0, 12), (0, 71, 79, 2, 0, 0), (0, 74, 208, 2, 0, 12), (0, 75, 81, 2, 0, 0), (0, 78, 210, 2, 0, 12), (0, 79, 84, 2, 0, 0), (0, 82, 211, 2, 0, 12)]
theorem qv_vl_3_ok : ∀ e ∈ qv_vl_3, qv_V e.1 e.2.1 e.2.2.1 e.2.2.2.1 e.2.2.2.2.1 e.2.2.2.2.2 := List.forall_mem_cons.mpr ⟨qv_v24, List.forall_mem_cons.mpr ⟨qv_v25, List.forall_mem_cons.mpr ⟨qv_v26, List.forall_mem_cons.mpr ⟨qv_v27, List.forall_mem_cons.mpr ⟨qv_v28, List.forall_mem_cons.mpr ⟨qv_v29, List.forall_mem_cons.mpr ⟨qv_v30, List.forall_mem_cons.mpr ⟨qv_v31, fun _ h => absurd h List.not_mem_nil⟩⟩⟩⟩⟩⟩⟩⟩
def qv_vl_4 : List (Nat × Nat × Nat × Nat × Nat × Nat) := [(0, 83, 85, 1, 0, 0), (0, 87, 212, 1, 0, 12), (0, 88, 87, 3, 0, 0), (0, 92, 224, 3, 0, 12), (0, 93, 99, 3, 0, 0), (0, 97, 229, 3, 0, 12), (0, 98, 105, 2, 0, 0), (0, 101, 231, 2, 0, 12)]
theorem qv_vl_4_ok : ∀ e ∈ qv_vl_4, qv_V e.1 e.2.1 e.2.2.1 e.2.2.2.1 e.2.2.2.2.1 e.2.2.2.2.2 := List.forall_mem_cons.mpr ⟨qv_v32, List.forall_mem_cons.mpr ⟨qv_v33, List.forall_mem_cons.mpr ⟨qv_v34, List.forall_mem_cons.mpr ⟨qv_v35, List.forall_mem_cons.mpr ⟨qv_v36, List.forall_mem_cons.mpr ⟨qv_v37, List.forall_mem_cons.mpr ⟨qv_v38, List.forall_mem_cons.mpr ⟨qv_v39, fun _ h => absurd h List.not_mem_nil⟩⟩⟩⟩⟩⟩⟩⟩
def qv_vl_5 : List (Nat × Nat × Nat × Nat × Nat × Nat) := [(0, 102, 108, 3, 0, 0), (0, 106, 233, 3, 0, 12), (0, 107, 117, 3, 0, 0), (0, 111, 238, 3, 0, 12), (0, 112, 120, 3, 0, 0), (0, 115, 239, 3, 0, 12), (0, 116, 126, 2, 0, 0), (0, 119, 241, 2, 0, 12)]
theorem qv_vl_5_ok : ∀ e ∈ qv_vl_5, qv_V e.1 e.2.1 e.2.2.1 e.2.2.2.1 e.2.2.2.2.1 e.2.2.2.2.2 := List.forall_mem_cons.mpr ⟨qv_v40, List.forall_mem_cons.mpr ⟨qv_v41, List.forall_mem_cons.mpr ⟨qv_v42, List.forall_mem_cons.mpr ⟨qv_v43, List.forall_mem_cons.mpr ⟨qv_v44, List.forall_mem_cons.mpr ⟨qv_v45, List.forall_mem_cons.mpr ⟨qv_v46, List.forall_mem_cons.mpr ⟨qv_v47, fun _ h => absurd h List.not_mem_nil⟩⟩⟩⟩⟩⟩⟩⟩
def qv_vl_6 : List (Nat × Nat × Nat × Nat × Nat × Nat) := [(0, 120, 127, 3, 0, 0), (0, 123, 242, 3, 0, 12), (0, 124, 133, 4, 0, 0), (0, 127, 245, 4, 0, 12), (0, 128, 138, 1, 0, 0), (0, 131, 250, 1, 0, 12), (0, 132, 139, 0, 0, 0), (0, 136, 251, 0, 0, 12)]
theorem qv_vl_6_ok : ∀ e ∈ qv_vl_6, qv_V e.1 e.2.1 e.2.2.1 e.2.2.2.1 e.2.2.2.2.1 e.2.2.2.2.2 := List.forall_mem_cons.mpr ⟨qv_v48, List.forall_mem_cons.mpr ⟨qv_v49, List.forall_mem_cons.mpr ⟨qv_v50, List.forall_mem_cons.mpr ⟨qv_v51, List.forall_mem_cons.mpr ⟨qv_v52, List.forall_mem_cons.mpr ⟨qv_v53, List.forall_mem_cons.mpr ⟨qv_v54, List.forall_mem_cons.mpr ⟨qv_v55, fun _ h => absurd h List.not_mem_nil⟩⟩⟩⟩⟩⟩⟩⟩
def qv_vl_7 : List (Nat × Nat × Nat × Nat × Nat × Nat) := [(0, 137, 140, 2, 0, 0), (0, 141, 252, 2, 0, 12), (0, 142, 141, 3, 0, 0), (0, 145, 254, 3, 0, 12), (0, 146, 144, 0, 0, 0), (0, 150, 172, 0, 0, 12), (0, 151, 146, 0, 0, 0), (0, 154, 173, 0, 0, 12)]
theorem qv_vl_7_ok : ∀ e ∈ qv_vl_7, qv_V e.1 e.2.1 e.2.2.1 e.2.2.2.1 e.2.2.2.2.1 e.2.2.2.2.2 := List.forall_mem_cons.mpr ⟨qv_v56, List.forall_mem_cons.mpr ⟨qv_v57, List.forall_mem_cons.mpr ⟨qv_v58, List.forall_mem_cons.mpr ⟨qv_v59, List.forall_mem_cons.mpr ⟨qv_v60, List.forall_mem_cons.mpr ⟨qv_v61, List.forall_mem_cons.mpr ⟨qv_v62, List.forall_mem_cons.mpr ⟨qv_v63, fun _ h => absurd h List.not_mem_nil⟩⟩⟩⟩⟩⟩⟩⟩
def qv_vl_8 : List (Nat × Nat × Nat × Nat × Nat × Nat) := [(0, 155, 148, 3, 0, 0), (0, 158, 255, 3, 0, 12), (0, 159, 154, 1, 0, 0), (0, 162, 261, 1, 0, 12), (0, 163, 155, 2, 0, 0), (0, 166, 262, 2, 0, 12), (0, 167, 157, 3, 0, 0), (0, 170, 263, 3, 0, 12)]
theorem qv_vl_8_ok : ∀ e ∈ qv_vl_8, qv_V e.1 e.2.1 e.2.2.1 e.2.2.2.1 e.2.2.2.2.1 e.2.2.2.2.2 := List.forall_mem_cons.mpr ⟨qv_v64, List.forall_mem_cons.mpr ⟨qv_v65, List.forall_mem_cons.mpr ⟨qv_v66, List.forall_mem_cons.mpr ⟨qv_v67, List.forall_mem_cons.mpr ⟨qv_v68, List.forall_mem_cons.mpr ⟨qv_v69, List.forall_mem_cons.mpr ⟨qv_v70, List.forall_mem_cons.mpr ⟨qv_v71, fun _ h => absurd h List.not_mem_nil⟩⟩⟩⟩⟩⟩⟩⟩
def qv_vl_9 : List (Nat × Nat × Nat × Nat × Nat × Nat) := [(0, 171, 159, 3, 0, 0), (0, 175, 264, 3, 0, 12), (0, 176, 163, 2, 0, 0), (0, 180, 267, 2, 0, 12), (0, 181, 164, 5, 0, 0), (0, 185, 268, 5, 0, 12), (0, 186, 167, 2, 0, 0), (0, 189, 269, 2, 0, 12)]
theorem qv_vl_9_ok : ∀ e ∈ qv_vl_9, qv_V e.1 e.2.1 e.2.2.1 e.2.2.2.1 e.2.2.2.2.1 e.2.2.2.2.2 := List.forall_mem_cons.mpr ⟨qv_v72, List.forall_mem_cons.mpr ⟨qv_v73, List.forall_mem_cons.mpr ⟨qv_v74, List.forall_mem_cons.mpr ⟨qv_v75, List.forall_mem_cons.mpr ⟨qv_v76, List.forall_mem_cons.mpr ⟨qv_v77, List.forall_mem_cons.mpr ⟨qv_v78, List.forall_mem_cons.mpr ⟨qv_v79, fun _ h => absurd h List.not_mem_nil⟩⟩⟩⟩⟩⟩⟩⟩
def qv_vl_10 : List (Nat × Nat × Nat × Nat × Nat × Nat) := [(0, 190, 170, 1, 0, 0), (0, 193, 271, 1, 0, 12), (1, 118, 39, 3, 0, 1), (1, 125, 42, 3, 0, 1), (1, 129, 44, 1, 0, 6), (1, 133, 45, 1, 0, 6), (1, 136, 46, 2, 0, 6), (1, 147, 48, 2, 0, 6)]
theorem qv_vl_10_ok : ∀ e ∈ qv_vl_10, qv_V e.1 e.2.1 e.2.2.1 e.2.2.2.1 e.2.2.2.2.1 e.2.2.2.2.2 := List.forall_mem_cons.mpr ⟨qv_v80, List.forall_mem_cons.mpr ⟨qv_v81, List.forall_mem_cons.mpr ⟨qv_v82, List.forall_mem_cons.mpr ⟨qv_v83, List.forall_mem_cons.mpr ⟨qv_v84, List.forall_mem_cons.mpr ⟨qv_v85, List.forall_mem_cons.mpr ⟨qv_v86, List.forall_mem_cons.mpr ⟨qv_v87, fun _ h => absurd h List.not_mem_nil⟩⟩⟩⟩⟩⟩⟩⟩
def qv_vl_11 : List (Nat × Nat × Nat × Nat × Nat × Nat) := [(1, 151, 40, 1, 0, 1), (1, 172, 52, 3, 0, 11), (1, 175, 57, 2, 0, 2), (1, 180, 58, 3, 0, 2), (1, 184, 61, 1, 0, 1), (1, 191, 63, 5, 0, 3), (1, 195, 66, 4, 0, 3), (1, 203, 71, 5, 0, 4)]
theorem qv_vl_11_ok : ∀ e ∈ qv_vl_11, qv_V e.1 e.2.1 e.2.2.1 e.2.2.2.1 e.2.2.2.2.1 e.2.2.2.2.2 := List.forall_mem_cons.mpr ⟨qv_v88, List.forall_mem_cons.mpr ⟨qv_v89, List.forall_mem_cons.mpr ⟨qv_v90, List.forall_mem_cons.mpr ⟨qv_v91, List.forall_mem_cons.mpr ⟨qv_v92, List.forall_mem_cons.mpr ⟨qv_v93, List.forall_mem_cons.mpr ⟨qv_v94, List.forall_mem_cons.mpr ⟨qv_v95, fun _ h => absurd h List.not_mem_nil⟩⟩⟩⟩⟩⟩⟩⟩
def qv_vl_12 : List (Nat × Nat × Nat × Nat × Nat × Nat) := [(1, 206, 73, 1, 0, 4), (1, 232, 77, 2, 0, 4), (1, 235, 78, 4, 0, 4), (1, 239, 80, 4, 0, 4), (1, 246, 86, 2, 0, 7), (1, 250, 88, 1, 0, 1), (1, 257, 89, 1, 0, 8), (1, 261, 90, 5, 0, 8)]
theorem qv_vl_12_ok : ∀ e ∈ qv_vl_12, qv_V e.1 e.2.1 e.2.2.1 e.2.2.2.1 e.2.2.2.2.1 e.2.2.2.2.2 := List.forall_mem_cons.mpr ⟨qv_v96, List.forall_mem_cons.mpr ⟨qv_v97, List.forall_mem_cons.mpr ⟨qv_v98, List.forall_mem_cons.mpr ⟨qv_v99, List.forall_mem_cons.mpr ⟨qv_v100, List.forall_mem_cons.mpr ⟨qv_v101, List.forall_mem_cons.mpr ⟨qv_v102, List.forall_mem_cons.mpr ⟨qv_v103, fun _ h => absurd h List.not_mem_nil⟩⟩⟩⟩⟩⟩⟩⟩
def qv_vl_13 : List (Nat × Nat × Nat × Nat × Nat × Nat) := [(1, 268, 101, 1, 0, 8), (1, 271, 104, 1, 0, 8), (1, 274, 106, 4, 0, 8), (1, 281, 110, 1, 0, 9), (1, 285, 111, 2, 0, 9), (1, 289, 112, 1, 0, 9), (1, 293, 118, 1, 0, 9), (1, 297, 121, 3, 0, 9)]
theorem qv_vl_13_ok : ∀ e ∈ qv_vl_13, qv_V e.1 e.2.1 e.2.2.1 e.2.2.2.1 e.2.2.2.2.1 e.2.2.2.2.2 := List.forall_mem_cons.mpr ⟨qv_v104, List.forall_mem_cons.mpr ⟨qv_v105, List.forall_mem_cons.mpr ⟨qv_v106, List.forall_mem_cons.mpr ⟨qv_v107, List.forall_mem_cons.mpr ⟨qv_v108, List.forall_mem_cons.mpr ⟨qv_v109, List.forall_mem_cons.mpr ⟨qv_v110, List.forall_mem_cons.mpr ⟨qv_v111, fun _ h => absurd h List.not_mem_nil⟩⟩⟩⟩⟩⟩⟩⟩
def qv_vl_14 : List (Nat × Nat × Nat × Nat × Nat × Nat) := [(1, 304, 128, 3, 0, 9), (1, 307, 130, 0, 0, 9), (1, 311, 134, 3, 0, 10), (1, 330, 142, 3, 0, 3), (1, 334, 143, 1, 0, 2), (1, 338, 145, 0, 0, 11), (1, 341, 147, 0, 0, 11), (1, 344, 149, 0, 0, 5)]
theorem qv_vl_14_ok : ∀ e ∈ qv_vl_14, qv_V e.1 e.2.1 e.2.2.1 e.2.2.2.1 e.2.2.2.2.1 e.2.2.2.2.2 := List.forall_mem_cons.mpr ⟨qv_v112, List.forall_mem_cons.mpr ⟨qv_v113, List.forall_mem_cons.mpr ⟨qv_v114, List.forall_mem_cons.mpr ⟨qv_v115, List.forall_mem_cons.mpr ⟨qv_v116, List.forall_mem_cons.mpr ⟨qv_v117, List.forall_mem_cons.mpr ⟨qv_v118, List.forall_mem_cons.mpr ⟨qv_v119, fun _ h => absurd h List.not_mem_nil⟩⟩⟩⟩⟩⟩⟩⟩
def qv_vl_15 : List (Nat × Nat × Nat × Nat × Nat × Nat) := [(1, 347, 150, 4, 0, 5), (1, 357, 156, 2, 0, 6), (1, 360, 158, 3, 0, 6), (1, 363, 160, 2, 0, 6), (1, 366, 161, 3, 0, 6), (1, 371, 47, 1, 0, 6), (1, 377, 165, 3, 0, 6), (1, 380, 166, 5, 0, 6)]
theorem qv_vl_15_ok : ∀ e ∈ qv_vl_15, qv_V e.1 e.2.1 e.2.2.1 e.2.2.2.1 e.2.2.2.2.1 e.2.2.2.2.2 := List.forall_mem_cons.mpr ⟨qv_v120, List.forall_mem_cons.mpr ⟨qv_v121, List.forall_mem_cons.mpr ⟨qv_v122, List.forall_mem_cons.mpr ⟨qv_v123, List.forall_mem_cons.mpr ⟨qv_v124, List.forall_mem_cons.mpr ⟨qv_v125, List.forall_mem_cons.mpr ⟨qv_v126, List.forall_mem_cons.mpr ⟨qv_v127, fun _ h => absurd h List.not_mem_nil⟩⟩⟩⟩⟩⟩⟩⟩
def qv_vl_16 : List (Nat × Nat × Nat × Nat × Nat × Nat) := [(1, 384, 168, 1, 0, 6), (2, 36, 40, 1, 0, 1), (2, 47, 96, 2, 0, 1), (3, 25, 57, 2, 0, 2), (5, 43, 67, 2, 0, 3), (5, 47, 68, 4, 0, 3), (5, 57, 66, 4, 0, 3), (6, 43, 77, 2, 0, 4)]
theorem qv_vl_16_ok : ∀ e ∈ qv_vl_16, qv_V e.1 e.2.1 e.2.2.1 e.2.2.2.1 e.2.2.2.2.1 e.2.2.2.2.2 := List.forall_mem_cons.mpr ⟨qv_v128, List.forall_mem_cons.mpr ⟨qv_v129, List.forall_mem_cons.mpr ⟨qv_v130, List.forall_mem_cons.mpr ⟨qv_v131, List.forall_mem_cons.mpr ⟨qv_v132, List.forall_mem_cons.mpr ⟨qv_v133, List.forall_mem_cons.mpr ⟨qv_v134, List.forall_mem_cons.mpr ⟨qv_v135, fun _ h => absurd h List.not_mem_nil⟩⟩⟩⟩⟩⟩⟩⟩
def qv_vl_17 : List (Nat × Nat × Nat × Nat × Nat × Nat) := [(6, 47, 78, 4, 0, 4), (7, 20, 151, 5, 0, 5), (7, 24, 152, 6, 0, 5), (7, 31, 153, 6, 0, 5), (8, 25, 47, 1, 0, 6), (8, 29, 45, 1, 0, 6), (9, 38, 10, 0, 0, 13), (9, 49, 13, 1, 0, 13)]
theorem qv_vl_17_ok : ∀ e ∈ qv_vl_17, qv_V e.1 e.2.1 e.2.2.1 e.2.2.2.1 e.2.2.2.2.1 e.2.2.2.2.2 := List.forall_mem_cons.mpr ⟨qv_v136, List.forall_mem_cons.mpr ⟨qv_v137, List.forall_mem_cons.mpr ⟨qv_v138, List.forall_mem_cons.mpr ⟨qv_v139, List.forall_mem_cons.mpr ⟨qv_v140, List.forall_mem_cons.mpr ⟨qv_v141, List.forall_mem_cons.mpr ⟨qv_v142, List.forall_mem_cons.mpr ⟨qv_v143, fun _ h => absurd h List.not_mem_nil⟩⟩⟩⟩⟩⟩⟩⟩
def qv_vl_18 : List (Nat × Nat × Nat × Nat × Nat × Nat) := [(9, 53, 18, 0, 0, 7), (9, 66, 19, 0, 0, 7), (9, 69, 32, 1, 0, 7), (9, 73, 20, 2, 0, 7), (9, 77, 22, 0, 0, 7), (9, 80, 25, 2, 0, 7), (9, 84, 21, 1, 0, 7), (9, 95, 24, 0, 0, 7)]
theorem qv_vl_18_ok : ∀ e ∈ qv_vl_18, qv_V e.1 e.2.1 e.2.2.1 e.2.2.2.1 e.2.2.2.2.1 e.2.2.2.2.2 := List.forall_mem_cons.mpr ⟨qv_v144, List.forall_mem_cons.mpr ⟨qv_v145, List.forall_mem_cons.mpr ⟨qv_v146, List.forall_mem_cons.mpr ⟨qv_v147, List.forall_mem_cons.mpr ⟨qv_v148, List.forall_mem_cons.mpr ⟨qv_v149, List.forall_mem_cons.mpr ⟨qv_v150, List.forall_mem_cons.mpr ⟨qv_v151, fun _ h => absurd h List.not_mem_nil⟩⟩⟩⟩⟩⟩⟩⟩
def qv_vl_19 : List (Nat × Nat × Nat × Nat × Nat × Nat) := [(9, 100, 26, 1, 0, 13), (10, 335, 11, 0, 0, 13), (10, 492, 14, 0, 0, 13), (10, 505, 10, 0, 0, 13), (10, 633, 27, 2, 0, 13), (14, 61, 102, 1, 0, 3), (14, 67, 103, 1, 0, 4), (14, 82, 66, 4, 0, 3)]
theorem qv_vl_19_ok : ∀ e ∈ qv_vl_19, qv_V e.1 e.2.1 e.2.2.1 e.2.2.2.1 e.2.2.2.2.1 e.2.2.2.2.2 := List.forall_mem_cons.mpr ⟨qv_v152, List.forall_mem_cons.mpr ⟨qv_v153, List.forall_mem_cons.mpr ⟨qv_v154, List.forall_mem_cons.mpr ⟨qv_v155, List.forall_mem_cons.mpr ⟨qv_v156, List.forall_mem_cons.mpr ⟨qv_v157, List.forall_mem_cons.mpr ⟨qv_v158, List.forall_mem_cons.mpr ⟨qv_v159, fun _ h => absurd h List.not_mem_nil⟩⟩⟩⟩⟩⟩⟩⟩
def qv_vl_20 : List (Nat × Nat × Nat × Nat × Nat × Nat) := [(14, 86, 80, 4, 0, 4), (14, 92, 91, 1, 0, 7), (14, 95, 92, 2, 0, 8), (14, 98, 94, 2, 0, 8), (14, 108, 95, 2, 0, 1), (14, 124, 57, 2, 0, 2), (14, 129, 97, 1, 0, 7), (14, 136, 90, 5, 0, 8)]
theorem qv_vl_20_ok : ∀ e ∈ qv_vl_20, qv_V e.1 e.2.1 e.2.2.1 e.2.2.2.1 e.2.2.2.2.1 e.2.2.2.2.2 := List.forall_mem_cons.mpr ⟨qv_v160, List.forall_mem_cons.mpr ⟨qv_v161, List.forall_mem_cons.mpr ⟨qv_v162, List.forall_mem_cons.mpr ⟨qv_v163, List.forall_mem_cons.mpr ⟨qv_v164, List.forall_mem_cons.mpr ⟨qv_v165, List.forall_mem_cons.mpr ⟨qv_v166, List.forall_mem_cons.mpr ⟨qv_v167, fun _ h => absurd h List.not_mem_nil⟩⟩⟩⟩⟩⟩⟩⟩
def qv_vl_21 : List (Nat × Nat × Nat × Nat × Nat × Nat) := [(14, 140, 101, 1, 0, 8), (14, 141, 89, 1, 0, 8), (14, 145, 107, 2, 0, 8), (15, 48, 106, 4, 0, 8), (15, 63, 114, 1, 0, 9), (15, 67, 113, 1, 0, 9), (15, 77, 116, 1, 0, 9), (15, 81, 119, 0, 0, 9)]
theorem qv_vl_21_ok : ∀ e ∈ qv_vl_21, qv_V e.1 e.2.1 e.2.2.1 e.2.2.2.1 e.2.2.2.2.1 e.2.2.2.2.2 := List.forall_mem_cons.mpr ⟨qv_v168, List.forall_mem_cons.mpr ⟨qv_v169, List.forall_mem_cons.mpr ⟨qv_v170, List.forall_mem_cons.mpr ⟨qv_v171, List.forall_mem_cons.mpr ⟨qv_v172, List.forall_mem_cons.mpr ⟨qv_v173, List.forall_mem_cons.mpr ⟨qv_v174, List.forall_mem_cons.mpr ⟨qv_v175, fun _ h => absurd h List.not_mem_nil⟩⟩⟩⟩⟩⟩⟩⟩
def qv_vl_22 : List (Nat × Nat × Nat × Nat × Nat × Nat) := [(15, 97, 122, 2, 0, 3), (15, 107, 123, 2, 0, 9), (15, 110, 125, 1, 0, 3), (15, 116, 101, 1, 0, 8), (15, 120, 89, 1, 0, 8), (15, 124, 107, 2, 0, 8), (15, 132, 124, 4, 0, 3), (15, 136, 129, 2, 0, 9)]
theorem qv_vl_22_ok : ∀ e ∈ qv_vl_22, qv_V e.1 e.2.1 e.2.2.1 e.2.2.2.1 e.2.2.2.2.1 e.2.2.2.2.2 := List.forall_mem_cons.mpr ⟨qv_v176, List.forall_mem_cons.mpr ⟨qv_v177, List.forall_mem_cons.mpr ⟨qv_v178, List.forall_mem_cons.mpr ⟨qv_v179, List.forall_mem_cons.mpr ⟨qv_v180, List.forall_mem_cons.mpr ⟨qv_v181, List.forall_mem_cons.mpr ⟨qv_v182, List.forall_mem_cons.mpr ⟨qv_v183, fun _ h => absurd h List.not_mem_nil⟩⟩⟩⟩⟩⟩⟩⟩
def qv_vl_23 : List (Nat × Nat × Nat × Nat × Nat × Nat) := [(15, 142, 92, 2, 0, 8), (15, 145, 94, 2, 0, 8), (15, 148, 131, 3, 0, 9), (15, 152, 132, 2, 0, 9), (16, 36, 135, 2, 0, 10), (16, 40, 137, 0, 0, 10), (16, 44, 104, 1, 0, 8), (16, 54, 94, 2, 0, 8)]
theorem qv_vl_23_ok : ∀ e ∈ qv_vl_23, qv_V e.1 e.2.1 e.2.2.1 e.2.2.2.1 e.2.2.2.2.1 e.2.2.2.2.2 := List.forall_mem_cons.mpr ⟨qv_v184, List.forall_mem_cons.mpr ⟨qv_v185, List.forall_mem_cons.mpr ⟨qv_v186, List.forall_mem_cons.mpr ⟨qv_v187, List.forall_mem_cons.mpr ⟨qv_v188, List.forall_mem_cons.mpr ⟨qv_v189, List.forall_mem_cons.mpr ⟨qv_v190, List.forall_mem_cons.mpr ⟨qv_v191, fun _ h => absurd h List.not_mem_nil⟩⟩⟩⟩⟩⟩⟩⟩
def qv_vl_24 : List (Nat × Nat × Nat × Nat × Nat × Nat) := [(16, 62, 136, 1, 0, 4), (16, 81, 90, 5, 0, 8), (17, 43, 53, 2, 0, 11), (17, 47, 54, 0, 0, 11), (17, 50, 55, 3, 0, 11), (20, 150, 175, 3, 0, 12), (20, 164, 174, 3, 0, 12), (20, 171, 180, 1, 0, 12)]
theorem qv_vl_24_ok : ∀ e ∈ qv_vl_24, qv_V e.1 e.2.1 e.2.2.1 e.2.2.2.1 e.2.2.2.2.1 e.2.2.2.2.2 := List.forall_mem_cons.mpr ⟨qv_v192, List.forall_mem_cons.mpr ⟨qv_v193, List.forall_mem_cons.mpr ⟨qv_v194, List.forall_mem_cons.mpr ⟨qv_v195, List.forall_mem_cons.mpr ⟨qv_v196, List.forall_mem_cons.mpr ⟨qv_v197, List.forall_mem_cons.mpr ⟨qv_v198, List.forall_mem_cons.mpr ⟨qv_v199, fun _ h => absurd h List.not_mem_nil⟩⟩⟩⟩⟩⟩⟩⟩
def qv_vl_25 : List (Nat × Nat × Nat × Nat × Nat × Nat) := [(20, 174, 181, 1, 0, 12), (20, 177, 183, 2, 0, 12), (20, 184, 185, 2, 0, 12), (20, 188, 189, 2, 0, 12), (20, 191, 188, 0, 0, 12), (20, 194, 187, 2, 0, 12), (20, 197, 191, 1, 0, 12), (20, 213, 196, 2, 0, 12)]
theorem qv_vl_25_ok : ∀ e ∈ qv_vl_25, qv_V e.1 e.2.1 e.2.2.1 e.2.2.2.1 e.2.2.2.2.1 e.2.2.2.2.2 := List.forall_mem_cons.mpr ⟨qv_v200, List.forall_mem_cons.mpr ⟨qv_v201, List.forall_mem_cons.mpr ⟨qv_v202, List.forall_mem_cons.mpr ⟨qv_v203, List.forall_mem_cons.mpr ⟨qv_v204, List.forall_mem_cons.mpr ⟨qv_v205, List.forall_mem_cons.mpr ⟨qv_v206, List.forall_mem_cons.mpr ⟨qv_v207, fun _ h => absurd h List.not_mem_nil⟩⟩⟩⟩⟩⟩⟩⟩
def qv_vl_26 : List (Nat × Nat × Nat × Nat × Nat × Nat) := [(20, 216, 197, 3, 0, 12), (20, 222, 195, 3, 0, 12), (20, 234, 200, 1, 0, 12), (20, 237, 201, 1, 0, 12), (20, 241, 202, 2, 0, 12), (20, 244, 207, 2, 0, 12), (20, 250, 206, 2, 0, 12), (20, 253, 205, 4, 0, 12)]
theorem qv_vl_26_ok : ∀ e ∈ qv_vl_26, qv_V e.1 e.2.1 e.2.2.1 e.2.2.2.1 e.2.2.2.2.1 e.2.2.2.2.2 := List.forall_mem_cons.mpr ⟨qv_v208, List.forall_mem_cons.mpr ⟨qv_v209, List.forall_mem_cons.mpr ⟨qv_v210, List.forall_mem_cons.mpr ⟨qv_v211, List.forall_mem_cons.mpr ⟨qv_v212, List.forall_mem_cons.mpr ⟨qv_v213, List.forall_mem_cons.mpr ⟨qv_v214, List.forall_mem_cons.mpr ⟨qv_v215, fun _ h => absurd h List.not_mem_nil⟩⟩⟩⟩⟩⟩⟩⟩
def qv_vl_27 : List (Nat × Nat × Nat × Nat × Nat × Nat) := [(20, 260, 209, 3, 0, 12), (20, 280, 220, 0, 0, 12), (20, 284, 215, 0, 0, 12), (20, 287, 222, 1, 0, 12), (20, 290, 216, 0, 0, 12), (20, 293, 217, 0, 0, 12), (20, 296, 218, 0, 0, 12), (20, 299, 219, 0, 0, 12)]
theorem qv_vl_27_ok : ∀ e ∈ qv_vl_27, qv_V e.1 e.2.1 e.2.2.1 e.2.2.2.1 e.2.2.2.2.1 e.2.2.2.2.2 := List.forall_mem_cons.mpr ⟨qv_v216, List.forall_mem_cons.mpr ⟨qv_v217, List.forall_mem_cons.mpr ⟨qv_v218, List.forall_mem_cons.mpr ⟨qv_v219, List.forall_mem_cons.mpr ⟨qv_v220, List.forall_mem_cons.mpr ⟨qv_v221, List.forall_mem_cons.mpr ⟨qv_v222, List.forall_mem_cons.mpr ⟨qv_v223, fun _ h => absurd h List.not_mem_nil⟩⟩⟩⟩⟩⟩⟩⟩
def qv_vl_28 : List (Nat × Nat × Nat × Nat × Nat × Nat) := [(20, 305, 221, 0, 0, 12), (20, 308, 214, 0, 0, 12), (20, 314, 213, 2, 0, 12), (20, 320, 228, 6, 0, 12), (20, 324, 225, 1, 0, 12), (20, 333, 227, 4, 0, 12), (20, 342, 232, 3, 0, 12), (20, 348, 234, 2, 0, 12)]
theorem qv_vl_28_ok : ∀ e ∈ qv_vl_28, qv_V e.1 e.2.1 e.2.2.1 e.2.2.2.1 e.2.2.2.2.1 e.2.2.2.2.2 := List.forall_mem_cons.mpr ⟨qv_v224, List.forall_mem_cons.mpr ⟨qv_v225, List.forall_mem_cons.mpr ⟨qv_v226, List.forall_mem_cons.mpr ⟨qv_v227, List.forall_mem_cons.mpr ⟨qv_v228, List.forall_mem_cons.mpr ⟨qv_v229, List.forall_mem_cons.mpr ⟨qv_v230, List.forall_mem_cons.mpr ⟨qv_v231, fun _ h => absurd h List.not_mem_nil⟩⟩⟩⟩⟩⟩⟩⟩
def qv_vl_29 : List (Nat × Nat × Nat × Nat × Nat × Nat) := [(20, 351, 235, 1, 0, 12), (20, 360, 237, 1, 0, 12), (20, 364, 240, 1, 0, 12), (20, 369, 244, 3, 0, 12), (20, 372, 243, 4, 0, 12), (20, 382, 249, 4, 0, 12), (20, 386, 247, 4, 0, 12), (20, 390, 248, 2, 0, 12)]
theorem qv_vl_29_ok : ∀ e ∈ qv_vl_29, qv_V e.1 e.2.1 e.2.2.1 e.2.2.2.1 e.2.2.2.2.1 e.2.2.2.2.2 := List.forall_mem_cons.mpr ⟨qv_v232, List.forall_mem_cons.mpr ⟨qv_v233, List.forall_mem_cons.mpr ⟨qv_v234, List.forall_mem_cons.mpr ⟨qv_v235, List.forall_mem_cons.mpr ⟨qv_v236, List.forall_mem_cons.mpr ⟨qv_v237, List.forall_mem_cons.mpr ⟨qv_v238, List.forall_mem_cons.mpr ⟨qv_v239, fun _ h => absurd h List.not_mem_nil⟩⟩⟩⟩⟩⟩⟩⟩
def qv_vl_30 : List (Nat × Nat × Nat × Nat × Nat × Nat) := [(20, 394, 246, 4, 0, 12), (20, 405, 257, 1, 0, 12), (20, 408, 256, 2, 0, 12), (20, 414, 258, 2, 0, 12), (20, 420, 259, 2, 0, 12), (20, 423, 260, 2, 0, 12), (20, 428, 265, 2, 0, 12)]
theorem qv_vl_30_ok : ∀ e ∈ qv_vl_30, qv_V e.1 e.2.1 e.2.2.1 e.2.2.2.1 e.2.2.2.2.1 e.2.2.2.2.2 := List.forall_mem_cons.mpr ⟨qv_v240, List.forall_mem_cons.mpr ⟨qv_v241, List.forall_mem_cons.mpr ⟨qv_v242, List.forall_mem_cons.mpr ⟨qv_v243, List.forall_mem_cons.mpr ⟨qv_v244, List.forall_mem_cons.mpr ⟨qv_v245, List.forall_mem_cons.mpr ⟨qv_v246, fun _ h => absurd h List.not_mem_nil⟩⟩⟩⟩⟩⟩⟩
def qv_vlp (k : Nat) : List (Nat × Nat × Nat × Nat × Nat × Nat) := (bif Nat.blt k 65883 then (bif Nat.blt k 137 then (bif Nat.blt k 67 then (bif Nat.blt k 31 then qv_vl_0 else (bif Nat.blt k 47 then qv_vl_1 else qv_vl_2)) else (bif Nat.blt k 102 then (bif Nat.blt k 83 then qv_vl_3 else qv_vl_4) else (bif Nat.blt k 120 then qv_vl_5 else qv_vl_6))) else (bif Nat.blt k 65687 then (bif Nat.blt k 171 then (bif Nat.blt k 155 then qv_vl_7 else qv_vl_8) else (bif Nat.blt k 190 then qv_vl_9 else qv_vl_10)) else (bif Nat.blt k 65804 then (bif Nat.blt k 65742 then qv_vl_11 else qv_vl_12) else (bif Nat.blt k 65840 then qv_vl_13 else qv_vl_14)))) else (bif Nat.blt k 983182 then (bif Nat.blt k 589924 then (bif Nat.blt k 393263 then (bif Nat.blt k 65920 then qv_vl_15 else qv_vl_16) else (bif Nat.blt k 589877 then qv_vl_17 else qv_vl_18)) else (bif Nat.blt k 917644 then (bif Nat.blt k 917590 then qv_vl_19 else qv_vl_20) else (bif Nat.blt k 983137 then qv_vl_21 else qv_vl_22))) else (bif Nat.blt k 1310980 then (bif Nat.blt k 1310894 then (bif Nat.blt k 1048638 then qv_vl_23 else qv_vl_24) else (bif Nat.blt k 1310936 then qv_vl_25 else qv_vl_26)) else (bif Nat.blt k 1311071 then (bif Nat.blt k 1311025 then qv_vl_27 else qv_vl_28) else (bif Nat.blt k 1311114 then qv_vl_29 else qv_vl_30)))))
theorem qv_vlp_ok (k : Nat) : ∀ e ∈ qv_vlp k, qv_V e.1 e.2.1 e.2.2.1 e.2.2.2.1 e.2.2.2.2.1 e.2.2.2.2.2 := (qd_cond (qd_cond (qd_cond (qd_cond qv_vl_0_ok (qd_cond qv_vl_1_ok qv_vl_2_ok)) (qd_cond (qd_cond qv_vl_3_ok qv_vl_4_ok) (qd_cond qv_vl_5_ok qv_vl_6_ok))) (qd_cond (qd_cond (qd_cond qv_vl_7_ok qv_vl_8_ok) (qd_cond qv_vl_9_ok qv_vl_10_ok)) (qd_cond (qd_cond qv_vl_11_ok qv_vl_12_ok) (qd_cond qv_vl_13_ok qv_vl_14_ok)))) (qd_cond (qd_cond (qd_cond (qd_cond qv_vl_15_ok qv_vl_16_ok) (qd_cond qv_vl_17_ok qv_vl_18_ok)) (qd_cond (qd_cond qv_vl_19_ok qv_vl_20_ok) (qd_cond qv_vl_21_ok qv_vl_22_ok))) (qd_cond (qd_cond (qd_cond qv_vl_23_ok qv_vl_24_ok) (qd_cond qv_vl_25_ok qv_vl_26_ok)) (qd_cond (qd_cond qv_vl_27_ok qv_vl_28_ok) (qd_cond qv_vl_29_ok qv_vl_30_ok)))))
def qv_ul_0 : List (Nat × Nat × Nat × Nat × Nat) := [(1, 165, 50, 2, 2), (1, 169, 41, 1, 2), (1, 187, 62, 1, 2), (1, 199, 70, 1, 2), (1, 226, 74, 1, 2), (1, 243, 82, 1, 2), (1, 265, 100, 1, 2), (1, 278, 109, 2, 2), (1, 388, 169, 2, 2), (2, 40, 41, 1, 3), (2, 43, 50, 2, 3), (3, 19, 4, 2, 2), (3, 29, 12, 2, 2), (5, 51, 12, 2, 2), (5, 62, 74, 1, 2), (5, 68, 50, 2, 3), (6, 51, 50, 2, 3), (8, 32, 162, 2, 2), (9, 43, 12, 2, 2), (9, 56, 50, 2, 3), (9, 87, 33, 1, 2), (9, 91, 23, 1, 2), (9, 104, 30, 2, 2), (9, 107, 98, 3, 2), (10, 495, 15, 2, 2), (10, 637, 28, 4, 2), (10, 1059, 17, 3, 2), (12, 9, 16, 2, 2), (12, 38, 12, 2, 2), (12, 88, 29, 1, 2), (12, 92, 30, 2, 2), (12, 95, 31, 4, 2), (14, 70, 12, 2, 2), (14, 76, 30, 2, 2), (14, 79, 93, 2, 2), (14, 102, 74, 1, 2), (14, 120, 50, 2, 3), (15, 38, 50, 2, 3), (15, 42, 4, 2, 2), (15, 70, 115, 1, 2)]
theorem qv_ul_0_ok : ∀ e ∈ qv_ul_0, qv_U e.1 e.2.1 e.2.2.1 e.2.2.2.1 e.2.2.2.2 := List.forall_mem_cons.mpr ⟨qv_u0, List.forall_mem_cons.mpr ⟨qv_u1, List.forall_mem_cons.mpr ⟨qv_u2, List.forall_mem_cons.mpr ⟨qv_u3, List.forall_mem_cons.mpr ⟨qv_u4, List.forall_mem_cons.mpr ⟨qv_u5, List.forall_mem_cons.mpr ⟨qv_u6, List.forall_mem_cons.mpr ⟨qv_u7, List.forall_mem_cons.mpr ⟨qv_u8, List.forall_mem_cons.mpr ⟨qv_u9, List.forall_mem_cons.mpr ⟨qv_u10, List.forall_mem_cons.mpr ⟨qv_u11, List.forall_mem_cons.mpr ⟨qv_u12, List.forall_mem_cons.mpr ⟨qv_u13, List.forall_mem_cons.mpr ⟨qv_u14, List.forall_mem_cons.mpr ⟨qv_u15, List.forall_mem_cons.mpr ⟨qv_u16, List.forall_mem_cons.mpr ⟨qv_u17, List.forall_mem_cons.mpr ⟨qv_u18, List.forall_mem_cons.mpr ⟨qv_u19, List.forall_mem_cons.mpr ⟨qv_u20, List.forall_mem_cons.mpr ⟨qv_u21, List.forall_mem_cons.mpr ⟨qv_u22, List.forall_mem_cons.mpr ⟨qv_u23, List.forall_mem_cons.mpr ⟨qv_u24, List.forall_mem_cons.mpr ⟨qv_u25, List.forall_mem_cons.mpr ⟨qv_u26, List.forall_mem_cons.mpr ⟨qv_u27, List.forall_mem_cons.mpr ⟨qv_u28, List.forall_mem_cons.mpr ⟨qv_u29, List.forall_mem_cons.mpr ⟨qv_u30, List.forall_mem_cons.mpr ⟨qv_u31, List.forall_mem_cons.mpr ⟨qv_u32, List.forall_mem_cons.mpr ⟨qv_u33, List.forall_mem_cons.mpr ⟨qv_u34, List.forall_mem_cons.mpr ⟨qv_u35, List.forall_mem_cons.mpr ⟨qv_u36, List.forall_mem_cons.mpr ⟨qv_u37, List.forall_mem_cons.mpr ⟨qv_u38, List.forall_mem_cons.mpr ⟨qv_u39, fun _ h => absurd h List.not_mem_nil⟩⟩⟩⟩⟩⟩⟩⟩⟩⟩⟩⟩⟩⟩⟩⟩⟩⟩⟩⟩⟩⟩⟩⟩⟩⟩⟩⟩⟩⟩⟩⟩⟩⟩⟩⟩⟩⟩⟩⟩
def qv_ul_1 : List (Nat × Nat × Nat × Nat × Nat) := [(15, 84, 83, 1, 2), (15, 87, 30, 2, 2), (16, 68, 50, 2, 3), (17, 71, 50, 2, 3), (18, 311, 83, 1, 2), (20, 5, 176, 3, 2), (20, 158, 178, 1, 2), (20, 200, 192, 1, 2), (20, 311, 223, 1, 2), (20, 329, 226, 2, 2), (20, 337, 230, 1, 2), (20, 355, 236, 1, 2), (20, 398, 253, 1, 2), (20, 431, 266, 2, 2), (20, 441, 270, 1, 2)]
theorem qv_ul_1_ok : ∀ e ∈ qv_ul_1, qv_U e.1 e.2.1 e.2.2.1 e.2.2.2.1 e.2.2.2.2 := List.forall_mem_cons.mpr ⟨qv_u40, List.forall_mem_cons.mpr ⟨qv_u41, List.forall_mem_cons.mpr ⟨qv_u42, List.forall_mem_cons.mpr ⟨qv_u43, List.forall_mem_cons.mpr ⟨qv_u44, List.forall_mem_cons.mpr ⟨qv_u45, List.forall_mem_cons.mpr ⟨qv_u46, List.forall_mem_cons.mpr ⟨qv_u47, List.forall_mem_cons.mpr ⟨qv_u48, List.forall_mem_cons.mpr ⟨qv_u49, List.forall_mem_cons.mpr ⟨qv_u50, List.forall_mem_cons.mpr ⟨qv_u51, List.forall_mem_cons.mpr ⟨qv_u52, List.forall_mem_cons.mpr ⟨qv_u53, List.forall_mem_cons.mpr ⟨qv_u54, fun _ h => absurd h List.not_mem_nil⟩⟩⟩⟩⟩⟩⟩⟩⟩⟩⟩⟩⟩⟩⟩
def qv_ul : List (Nat × Nat × Nat × Nat × Nat) := qv_ul_0 ++ (qv_ul_1)
theorem qv_ul_ok : ∀ e ∈ qv_ul, qv_U e.1 e.2.1 e.2.2.1 e.2.2.2.1 e.2.2.2.2 := List.forall_mem_append.mpr ⟨qv_ul_0_ok, qv_ul_1_ok⟩
def qv_nl_0 : List (Nat × Nat × Nat × Nat × Nat) := [(0, 9, 1, 0, 4), (0, 12, 171, 0, 4), (1, 9, 2, 0, 5), (1, 18, 3, 0, 4), (1, 28, 5, 0, 5), (1, 35, 6, 0, 5), (1, 42, 7, 0, 5), (1, 49, 8, 0, 5), (1, 58, 9, 1, 4), (1, 69, 34, 5, 4), (1, 78, 35, 1, 4), (1, 87, 36, 1, 4), (1, 97, 37, 3, 4)]
theorem qv_nl_0_ok : ∀ e ∈ qv_nl_0, qv_N e.1 e.2.1 e.2.2.1 e.2.2.2.1 e.2.2.2.2 := List.forall_mem_cons.mpr ⟨qv_w0, List.forall_mem_cons.mpr ⟨qv_w1, List.forall_mem_cons.mpr ⟨qv_w2, List.forall_mem_cons.mpr ⟨qv_w3, List.forall_mem_cons.mpr ⟨qv_w4, List.forall_mem_cons.mpr ⟨qv_w5, List.forall_mem_cons.mpr ⟨qv_w6, List.forall_mem_cons.mpr ⟨qv_w7, List.forall_mem_cons.mpr ⟨qv_w8, List.forall_mem_cons.mpr ⟨qv_w9, List.forall_mem_cons.mpr ⟨qv_w10, List.forall_mem_cons.mpr ⟨qv_w11, List.forall_mem_cons.mpr ⟨qv_w12, fun _ h => absurd h List.not_mem_nil⟩⟩⟩⟩⟩⟩⟩⟩⟩⟩⟩⟩⟩
def qv_nl : List (Nat × Nat × Nat × Nat × Nat) := qv_nl_0
theorem qv_nl_ok : ∀ e ∈ qv_nl, qv_N e.1 e.2.1 e.2.2.1 e.2.2.2.1 e.2.2.2.2 := qv_nl_0_ok
set_option maxRecDepth 100000 in
theorem qv_y0 : Cond.methodLink (qx_on 3) 34 arraycopyName ∈ lw_tbl := qv_in5 (List.mem_of_getElem? (i := 102) rfl)
set_option maxRecDepth 100000 in
theorem qv_y1 : Cond.methodLink (qx_on 8) 36 arraycopyName ∈ lw_tbl := qv_in5 (List.mem_of_getElem? (i := 201) rfl)
set_option maxRecDepth 100000 in
theorem qv_y2 : Cond.methodLink (qx_on 9) 60 arraycopyName ∈ lw_tbl := qv_in4 (List.mem_of_getElem? (i := 76) rfl)
set_option maxRecDepth 100000 in
theorem qv_y3 : Cond.methodLink (qx_on 17) 54 arraycopyName ∈ lw_tbl := qv_in3 (List.mem_of_getElem? (i := 180) rfl)
def qv_al_0 : List (Nat × Nat) := [(3, 34), (8, 36), (9, 60), (17, 54)]
theorem qv_al_0_ok : ∀ e ∈ qv_al_0, Cond.methodLink (qx_on e.1) e.2 arraycopyName ∈ lw_tbl := List.forall_mem_cons.mpr ⟨qv_y0, List.forall_mem_cons.mpr ⟨qv_y1, List.forall_mem_cons.mpr ⟨qv_y2, List.forall_mem_cons.mpr ⟨qv_y3, fun _ h => absurd h List.not_mem_nil⟩⟩⟩⟩
def qv_al : List (Nat × Nat) := qv_al_0
theorem qv_al_ok : ∀ e ∈ qv_al, Cond.methodLink (qx_on e.1) e.2 arraycopyName ∈ lw_tbl := qv_al_0_ok
set_option maxRecDepth 100000 in
theorem qv_b0 : Cond.methodLink (qx_on 1) 1 objectInit ∈ lw_tbl := qv_in1 (List.mem_of_getElem? (i := 30) rfl)
set_option maxRecDepth 100000 in
theorem qv_b1 : Cond.methodLink (qx_on 2) 3 objectInit ∈ lw_tbl := qv_in1 (List.mem_of_getElem? (i := 38) rfl)
set_option maxRecDepth 100000 in
theorem qv_b2 : Cond.methodLink (qx_on 3) 3 objectInit ∈ lw_tbl := qv_in1 (List.mem_of_getElem? (i := 82) rfl)
set_option maxRecDepth 100000 in
theorem qv_b3 : Cond.methodLink (qx_on 5) 5 objectInit ∈ lw_tbl := qv_in1 (List.mem_of_getElem? (i := 100) rfl)
set_option maxRecDepth 100000 in
theorem qv_b4 : Cond.methodLink (qx_on 6) 3 objectInit ∈ lw_tbl := qv_in1 (List.mem_of_getElem? (i := 134) rfl)
set_option maxRecDepth 100000 in
theorem qv_b5 : Cond.methodLink (qx_on 7) 1 objectInit ∈ lw_tbl := qv_in1 (List.mem_of_getElem? (i := 174) rfl)
set_option maxRecDepth 100000 in
theorem qv_b6 : Cond.methodLink (qx_on 8) 3 objectInit ∈ lw_tbl := qv_in1 (List.mem_of_getElem? (i := 189) rfl)
set_option maxRecDepth 100000 in
theorem qv_b7 : Cond.methodLink (qx_on 9) 3 objectInit ∈ lw_tbl := qv_in1 (List.mem_of_getElem? (i := 212) rfl)
set_option maxRecDepth 100000 in
theorem qv_b8 : Cond.methodLink (qx_on 14) 3 objectInit ∈ lw_tbl := qv_in2 (List.mem_of_getElem? (i := 153) rfl)
set_option maxRecDepth 100000 in
theorem qv_b9 : Cond.methodLink (qx_on 15) 3 objectInit ∈ lw_tbl := qv_in2 (List.mem_of_getElem? (i := 205) rfl)
set_option maxRecDepth 100000 in
theorem qv_b10 : Cond.methodLink (qx_on 16) 3 objectInit ∈ lw_tbl := qv_in2 (List.mem_of_getElem? (i := 236) rfl)
set_option maxRecDepth 100000 in
theorem qv_b11 : Cond.methodLink (qx_on 17) 3 objectInit ∈ lw_tbl := qv_in3 (List.mem_of_getElem? (i := 29) rfl)
set_option maxRecDepth 100000 in
theorem qv_b12 : Cond.methodLink (qx_on 20) 9 objectInit ∈ lw_tbl := qv_in5 (List.mem_of_getElem? (i := 222) rfl)
def qv_bl_0 : List (Nat × Nat) := [(1, 1), (2, 3), (3, 3), (5, 5), (6, 3), (7, 1), (8, 3), (9, 3), (14, 3), (15, 3), (16, 3), (17, 3), (20, 9)]
theorem qv_bl_0_ok : ∀ e ∈ qv_bl_0, Cond.methodLink (qx_on e.1) e.2 objectInit ∈ lw_tbl := List.forall_mem_cons.mpr ⟨qv_b0, List.forall_mem_cons.mpr ⟨qv_b1, List.forall_mem_cons.mpr ⟨qv_b2, List.forall_mem_cons.mpr ⟨qv_b3, List.forall_mem_cons.mpr ⟨qv_b4, List.forall_mem_cons.mpr ⟨qv_b5, List.forall_mem_cons.mpr ⟨qv_b6, List.forall_mem_cons.mpr ⟨qv_b7, List.forall_mem_cons.mpr ⟨qv_b8, List.forall_mem_cons.mpr ⟨qv_b9, List.forall_mem_cons.mpr ⟨qv_b10, List.forall_mem_cons.mpr ⟨qv_b11, List.forall_mem_cons.mpr ⟨qv_b12, fun _ h => absurd h List.not_mem_nil⟩⟩⟩⟩⟩⟩⟩⟩⟩⟩⟩⟩⟩
def qv_bl : List (Nat × Nat) := qv_bl_0
theorem qv_bl_ok : ∀ e ∈ qv_bl, Cond.methodLink (qx_on e.1) e.2 objectInit ∈ lw_tbl := qv_bl_0_ok
def qv_K (o i m : Nat) (v : Value) : Prop := (m = 0 → ∃ x, v = .int x ∧ Cond.constant (qx_on o) i x ∈ lw_tbl) ∧ (m = 1 → ∃ tx j, v = .ref j ∧ j < 16 ∧ (qx_on o, i, tx, j) ∈ qx_str) ∧ (m = 2 → ∃ x, v = .long x ∧ Cond.constantLong (qx_on o) i x ∈ lw_tbl)
set_option maxRecDepth 100000 in
theorem qv_k0 : qv_K 0 52 2 (.long 4294967295) := ⟨fun h => absurd h (by decide), fun h => absurd h (by decide), fun _ => ⟨_, rfl, qv_in8 (List.mem_of_getElem? (i := 104) rfl)⟩⟩
theorem qv_k1 : qv_K 1 56 1 (.ref 3) := ⟨fun h => absurd h (by decide), fun _ => ⟨"f&!c", 3, rfl, by decide, List.mem_of_getElem? (i := 0) rfl⟩, fun h => absurd h (by decide)⟩
theorem qv_k2 : qv_K 1 61 1 (.ref 5) := ⟨fun h => absurd h (by decide), fun _ => ⟨"d<2&w", 5, rfl, by decide, List.mem_of_getElem? (i := 2) rfl⟩, fun h => absurd h (by decide)⟩
theorem qv_k3 : qv_K 1 108 1 (.ref 6) := ⟨fun h => absurd h (by decide), fun _ => ⟨"0", 6, rfl, by decide, List.mem_of_getElem? (i := 3) rfl⟩, fun h => absurd h (by decide)⟩
set_option maxRecDepth 100000 in
theorem qv_k4 : qv_K 1 140 2 (.long 3) := ⟨fun h => absurd h (by decide), fun h => absurd h (by decide), fun _ => ⟨_, rfl, qv_in3 (List.mem_of_getElem? (i := 148) rfl)⟩⟩
set_option maxRecDepth 100000 in
theorem qv_k5 : qv_K 1 142 2 (.long 2) := ⟨fun h => absurd h (by decide), fun h => absurd h (by decide), fun _ => ⟨_, rfl, qv_in3 (List.mem_of_getElem? (i := 149) rfl)⟩⟩
set_option maxRecDepth 100000 in
theorem qv_k6 : qv_K 1 254 0 (.int (-2000000000)) := ⟨fun _ => ⟨_, rfl, qv_in4 (List.mem_of_getElem? (i := 85) rfl)⟩, fun h => absurd h (by decide), fun h => absurd h (by decide)⟩
set_option maxRecDepth 100000 in
theorem qv_k7 : qv_K 1 255 2 (.long (-1)) := ⟨fun h => absurd h (by decide), fun h => absurd h (by decide), fun _ => ⟨_, rfl, qv_in4 (List.mem_of_getElem? (i := 86) rfl)⟩⟩
set_option maxRecDepth 100000 in
theorem qv_k8 : qv_K 1 369 2 (.long (-9223372036854775808)) := ⟨fun h => absurd h (by decide), fun h => absurd h (by decide), fun _ => ⟨_, rfl, qv_in5 (List.mem_of_getElem? (i := 187) rfl)⟩⟩
set_option maxRecDepth 100000 in
theorem qv_k9 : qv_K 5 60 2 (.long (-1)) := ⟨fun h => absurd h (by decide), fun h => absurd h (by decide), fun _ => ⟨_, rfl, qv_in5 (List.mem_of_getElem? (i := 15) rfl)⟩⟩
set_option maxRecDepth 100000 in
theorem qv_k10 : qv_K 9 83 0 (.int 4128768) := ⟨fun _ => ⟨_, rfl, qv_in2 (List.mem_of_getElem? (i := 120) rfl)⟩, fun h => absurd h (by decide), fun h => absurd h (by decide)⟩
theorem qv_k11 : qv_K 9 98 1 (.ref 4) := ⟨fun h => absurd h (by decide), fun _ => ⟨"fncwvlkod", 4, rfl, by decide, List.mem_of_getElem? (i := 1) rfl⟩, fun h => absurd h (by decide)⟩
set_option maxRecDepth 100000 in
theorem qv_k12 : qv_K 9 103 0 (.int 65535) := ⟨fun _ => ⟨_, rfl, qv_in4 (List.mem_of_getElem? (i := 132) rfl)⟩, fun h => absurd h (by decide), fun h => absurd h (by decide)⟩
set_option maxRecDepth 100000 in
theorem qv_k13 : qv_K 14 90 2 (.long (-1)) := ⟨fun h => absurd h (by decide), fun h => absurd h (by decide), fun _ => ⟨_, rfl, qv_in4 (List.mem_of_getElem? (i := 115) rfl)⟩⟩
set_option maxRecDepth 100000 in
theorem qv_k14 : qv_K 15 75 2 (.long (-2)) := ⟨fun h => absurd h (by decide), fun h => absurd h (by decide), fun _ => ⟨_, rfl, qv_in4 (List.mem_of_getElem? (i := 211) rfl)⟩⟩
set_option maxRecDepth 100000 in
theorem qv_k15 : qv_K 15 114 2 (.long (-1)) := ⟨fun h => absurd h (by decide), fun h => absurd h (by decide), fun _ => ⟨_, rfl, qv_in5 (List.mem_of_getElem? (i := 21) rfl)⟩⟩
set_option maxRecDepth 100000 in
theorem qv_k16 : qv_K 16 52 2 (.long (-1)) := ⟨fun h => absurd h (by decide), fun h => absurd h (by decide), fun _ => ⟨_, rfl, qv_in5 (List.mem_of_getElem? (i := 64) rfl)⟩⟩
set_option maxRecDepth 100000 in
theorem qv_k17 : qv_K 17 83 2 (.long (-1)) := ⟨fun h => absurd h (by decide), fun h => absurd h (by decide), fun _ => ⟨_, rfl, qv_in3 (List.mem_of_getElem? (i := 187) rfl)⟩⟩
set_option maxRecDepth 100000 in
theorem qv_k18 : qv_K 18 314 2 (.long 6148914691236517205) := ⟨fun h => absurd h (by decide), fun h => absurd h (by decide), fun _ => ⟨_, rfl, qv_in4 (List.mem_of_getElem? (i := 24) rfl)⟩⟩
set_option maxRecDepth 100000 in
theorem qv_k19 : qv_K 18 316 2 (.long 3689348814741910323) := ⟨fun h => absurd h (by decide), fun h => absurd h (by decide), fun _ => ⟨_, rfl, qv_in4 (List.mem_of_getElem? (i := 25) rfl)⟩⟩
set_option maxRecDepth 100000 in
theorem qv_k20 : qv_K 18 318 2 (.long 1085102592571150095) := ⟨fun h => absurd h (by decide), fun h => absurd h (by decide), fun _ => ⟨_, rfl, qv_in4 (List.mem_of_getElem? (i := 26) rfl)⟩⟩
set_option maxRecDepth 100000 in
theorem qv_k21 : qv_K 19 264 0 (.int 65536) := ⟨fun _ => ⟨_, rfl, qv_in4 (List.mem_of_getElem? (i := 63) rfl)⟩, fun h => absurd h (by decide), fun h => absurd h (by decide)⟩
set_option maxRecDepth 100000 in
theorem qv_k22 : qv_K 19 265 0 (.int 1431655765) := ⟨fun _ => ⟨_, rfl, qv_in4 (List.mem_of_getElem? (i := 208) rfl)⟩, fun h => absurd h (by decide), fun h => absurd h (by decide)⟩
set_option maxRecDepth 100000 in
theorem qv_k23 : qv_K 19 266 0 (.int 858993459) := ⟨fun _ => ⟨_, rfl, qv_in4 (List.mem_of_getElem? (i := 209) rfl)⟩, fun h => absurd h (by decide), fun h => absurd h (by decide)⟩
set_option maxRecDepth 100000 in
theorem qv_k24 : qv_K 19 267 0 (.int 252645135) := ⟨fun _ => ⟨_, rfl, qv_in4 (List.mem_of_getElem? (i := 210) rfl)⟩, fun h => absurd h (by decide), fun h => absurd h (by decide)⟩
set_option maxRecDepth 100000 in
theorem qv_k25 : qv_K 20 3 2 (.long 2399) := ⟨fun h => absurd h (by decide), fun h => absurd h (by decide), fun _ => ⟨_, rfl, qv_in7 (List.mem_of_getElem? (i := 20) rfl)⟩⟩
set_option maxRecDepth 100000 in
theorem qv_k26 : qv_K 20 106 2 (.long (-1)) := ⟨fun h => absurd h (by decide), fun h => absurd h (by decide), fun _ => ⟨_, rfl, qv_in5 (List.mem_of_getElem? (i := 223) rfl)⟩⟩
set_option maxRecDepth 100000 in
theorem qv_k27 : qv_K 20 148 2 (.long 99) := ⟨fun h => absurd h (by decide), fun h => absurd h (by decide), fun _ => ⟨_, rfl, qv_in6 (List.mem_of_getElem? (i := 194) rfl)⟩⟩
set_option maxRecDepth 100000 in
theorem qv_k28 : qv_K 20 162 2 (.long 20) := ⟨fun h => absurd h (by decide), fun h => absurd h (by decide), fun _ => ⟨_, rfl, qv_in6 (List.mem_of_getElem? (i := 203) rfl)⟩⟩
set_option maxRecDepth 100000 in
theorem qv_k29 : qv_K 20 203 2 (.long 3999) := ⟨fun h => absurd h (by decide), fun h => absurd h (by decide), fun _ => ⟨_, rfl, qv_in7 (List.mem_of_getElem? (i := 21) rfl)⟩⟩
set_option maxRecDepth 100000 in
theorem qv_k30 : qv_K 20 208 2 (.long 2400) := ⟨fun h => absurd h (by decide), fun h => absurd h (by decide), fun _ => ⟨_, rfl, qv_in7 (List.mem_of_getElem? (i := 26) rfl)⟩⟩
set_option maxRecDepth 100000 in
theorem qv_k31 : qv_K 20 228 2 (.long 4294967295) := ⟨fun h => absurd h (by decide), fun h => absurd h (by decide), fun _ => ⟨_, rfl, qv_in7 (List.mem_of_getElem? (i := 47) rfl)⟩⟩
set_option maxRecDepth 100000 in
theorem qv_k32 : qv_K 20 230 2 (.long 240) := ⟨fun h => absurd h (by decide), fun h => absurd h (by decide), fun _ => ⟨_, rfl, qv_in7 (List.mem_of_getElem? (i := 48) rfl)⟩⟩
set_option maxRecDepth 100000 in
theorem qv_k33 : qv_K 20 232 2 (.long 65535) := ⟨fun h => absurd h (by decide), fun h => absurd h (by decide), fun _ => ⟨_, rfl, qv_in7 (List.mem_of_getElem? (i := 49) rfl)⟩⟩
set_option maxRecDepth 100000 in
theorem qv_k34 : qv_K 20 263 2 (.long 4) := ⟨fun h => absurd h (by decide), fun h => absurd h (by decide), fun _ => ⟨_, rfl, qv_in7 (List.mem_of_getElem? (i := 102) rfl)⟩⟩
set_option maxRecDepth 100000 in
theorem qv_k35 : qv_K 20 328 0 (.int (-2000000000)) := ⟨fun _ => ⟨_, rfl, qv_in7 (List.mem_of_getElem? (i := 158) rfl)⟩, fun h => absurd h (by decide), fun h => absurd h (by decide)⟩
set_option maxRecDepth 100000 in
theorem qv_k36 : qv_K 20 340 2 (.long 2) := ⟨fun h => absurd h (by decide), fun h => absurd h (by decide), fun _ => ⟨_, rfl, qv_in7 (List.mem_of_getElem? (i := 177) rfl)⟩⟩
set_option maxRecDepth 100000 in
theorem qv_k37 : qv_K 20 358 2 (.long (-2)) := ⟨fun h => absurd h (by decide), fun h => absurd h (by decide), fun _ => ⟨_, rfl, qv_in7 (List.mem_of_getElem? (i := 201) rfl)⟩⟩
set_option maxRecDepth 100000 in
theorem qv_k38 : qv_K 20 367 2 (.long 3) := ⟨fun h => absurd h (by decide), fun h => absurd h (by decide), fun _ => ⟨_, rfl, qv_in7 (List.mem_of_getElem? (i := 222) rfl)⟩⟩
set_option maxRecDepth 100000 in
theorem qv_k39 : qv_K 20 375 2 (.long 100) := ⟨fun h => absurd h (by decide), fun h => absurd h (by decide), fun _ => ⟨_, rfl, qv_in7 (List.mem_of_getElem? (i := 227) rfl)⟩⟩
set_option maxRecDepth 100000 in
theorem qv_k40 : qv_K 20 377 2 (.long 2499) := ⟨fun h => absurd h (by decide), fun h => absurd h (by decide), fun _ => ⟨_, rfl, qv_in7 (List.mem_of_getElem? (i := 228) rfl)⟩⟩
set_option maxRecDepth 100000 in
theorem qv_k41 : qv_K 20 426 2 (.long 5) := ⟨fun h => absurd h (by decide), fun h => absurd h (by decide), fun _ => ⟨_, rfl, qv_in6 (List.mem_of_getElem? (i := 202) rfl)⟩⟩
set_option maxRecDepth 100000 in
theorem qv_k42 : qv_K 20 437 2 (.long (-9223372036854775808)) := ⟨fun h => absurd h (by decide), fun h => absurd h (by decide), fun _ => ⟨_, rfl, qv_in8 (List.mem_of_getElem? (i := 87) rfl)⟩⟩
set_option maxRecDepth 100000 in
theorem qv_k43 : qv_K 20 439 2 (.long 6) := ⟨fun h => absurd h (by decide), fun h => absurd h (by decide), fun _ => ⟨_, rfl, qv_in8 (List.mem_of_getElem? (i := 96) rfl)⟩⟩
def qv_kl_0 : List (Nat × Nat × Nat × Value) := [(0, 52, 2, .long 4294967295), (1, 56, 1, .ref 3), (1, 61, 1, .ref 5), (1, 108, 1, .ref 6), (1, 140, 2, .long 3), (1, 142, 2, .long 2), (1, 254, 0, .int (-2000000000)), (1, 255, 2, .long (-1)), (1, 369, 2, .long (-9223372036854775808)), (5, 60, 2, .long (-1)), (9, 83, 0, .int 4128768), (9, 98, 1, .ref 4), (9, 103, 0, .int 65535), (14, 90, 2, .long (-1)), (15, 75, 2, .long (-2)), (15, 114, 2, .long (-1)), (16, 52, 2, .long (-1)), (17, 83, 2, .long (-1)), (18, 314, 2, .long 6148914691236517205), (18, 316, 2, .long 3689348814741910323), (18, 318, 2, .long 1085102592571150095), (19, 264, 0, .int 65536), (19, 265, 0, .int 1431655765), (19, 266, 0, .int 858993459), (19, 267, 0, .int 252645135), (20, 3, 2, .long 2399), (20, 106, 2, .long (-1)), (20, 148, 2, .long 99), (20, 162, 2, .long 20), (20, 203, 2, .long 3999), (20, 208, 2, .long 2400), (20, 228, 2, .long 4294967295), (20, 230, 2, .long 240), (20, 232, 2, .long 65535), (20, 263, 2, .long 4), (20, 328, 0, .int (-2000000000)), (20, 340, 2, .long 2), (20, 358, 2, .long (-2)), (20, 367, 2, .long 3), (20, 375, 2, .long 100)]
theorem qv_kl_0_ok : ∀ e ∈ qv_kl_0, qv_K e.1 e.2.1 e.2.2.1 e.2.2.2 := List.forall_mem_cons.mpr ⟨qv_k0, List.forall_mem_cons.mpr ⟨qv_k1, List.forall_mem_cons.mpr ⟨qv_k2, List.forall_mem_cons.mpr ⟨qv_k3, List.forall_mem_cons.mpr ⟨qv_k4, List.forall_mem_cons.mpr ⟨qv_k5, List.forall_mem_cons.mpr ⟨qv_k6, List.forall_mem_cons.mpr ⟨qv_k7, List.forall_mem_cons.mpr ⟨qv_k8, List.forall_mem_cons.mpr ⟨qv_k9, List.forall_mem_cons.mpr ⟨qv_k10, List.forall_mem_cons.mpr ⟨qv_k11, List.forall_mem_cons.mpr ⟨qv_k12, List.forall_mem_cons.mpr ⟨qv_k13, List.forall_mem_cons.mpr ⟨qv_k14, List.forall_mem_cons.mpr ⟨qv_k15, List.forall_mem_cons.mpr ⟨qv_k16, List.forall_mem_cons.mpr ⟨qv_k17, List.forall_mem_cons.mpr ⟨qv_k18, List.forall_mem_cons.mpr ⟨qv_k19, List.forall_mem_cons.mpr ⟨qv_k20, List.forall_mem_cons.mpr ⟨qv_k21, List.forall_mem_cons.mpr ⟨qv_k22, List.forall_mem_cons.mpr ⟨qv_k23, List.forall_mem_cons.mpr ⟨qv_k24, List.forall_mem_cons.mpr ⟨qv_k25, List.forall_mem_cons.mpr ⟨qv_k26, List.forall_mem_cons.mpr ⟨qv_k27, List.forall_mem_cons.mpr ⟨qv_k28, List.forall_mem_cons.mpr ⟨qv_k29, List.forall_mem_cons.mpr ⟨qv_k30, List.forall_mem_cons.mpr ⟨qv_k31, List.forall_mem_cons.mpr ⟨qv_k32, List.forall_mem_cons.mpr ⟨qv_k33, List.forall_mem_cons.mpr ⟨qv_k34, List.forall_mem_cons.mpr ⟨qv_k35, List.forall_mem_cons.mpr ⟨qv_k36, List.forall_mem_cons.mpr ⟨qv_k37, List.forall_mem_cons.mpr ⟨qv_k38, List.forall_mem_cons.mpr ⟨qv_k39, fun _ h => absurd h List.not_mem_nil⟩⟩⟩⟩⟩⟩⟩⟩⟩⟩⟩⟩⟩⟩⟩⟩⟩⟩⟩⟩⟩⟩⟩⟩⟩⟩⟩⟩⟩⟩⟩⟩⟩⟩⟩⟩⟩⟩⟩⟩
def qv_kl_1 : List (Nat × Nat × Nat × Value) := [(20, 377, 2, .long 2499), (20, 426, 2, .long 5), (20, 437, 2, .long (-9223372036854775808)), (20, 439, 2, .long 6)]
theorem qv_kl_1_ok : ∀ e ∈ qv_kl_1, qv_K e.1 e.2.1 e.2.2.1 e.2.2.2 := List.forall_mem_cons.mpr ⟨qv_k40, List.forall_mem_cons.mpr ⟨qv_k41, List.forall_mem_cons.mpr ⟨qv_k42, List.forall_mem_cons.mpr ⟨qv_k43, fun _ h => absurd h List.not_mem_nil⟩⟩⟩⟩
def qv_kl : List (Nat × Nat × Nat × Value) := qv_kl_0 ++ (qv_kl_1)
theorem qv_kl_ok : ∀ e ∈ qv_kl, qv_K e.1 e.2.1 e.2.2.1 e.2.2.2 := List.forall_mem_append.mpr ⟨qv_kl_0_ok, qv_kl_1_ok⟩
def qv_G (o i m : Nat) (v : Value) : Prop := (m = 0 → ∃ C n d, (C, n, d, some v) ∈ qx_sta ∧ Cond.fieldLink (qx_on o) i C n d ∈ lw_tbl) ∧ (m = 1 → ∃ C n d, (C, n, d, none) ∈ qx_sta ∧ Cond.fieldLink (qx_on o) i C n d ∈ lw_tbl)
set_option maxRecDepth 100000 in
theorem qv_g0 : qv_G 7 17 0 (.ref 1) := ⟨fun _ => ⟨"OneRoof$Acts", "ABOVE", "[I", List.mem_of_getElem? (i := 0) rfl, qv_in5 (List.mem_of_getElem? (i := 139) rfl)⟩, fun h => absurd h (by decide)⟩
set_option maxRecDepth 100000 in
theorem qv_g1 : qv_G 7 28 0 (.ref 2) := ⟨fun _ => ⟨"OneRoof$Acts", "BODIES", "[I", List.mem_of_getElem? (i := 1) rfl, qv_in5 (List.mem_of_getElem? (i := 141) rfl)⟩, fun h => absurd h (by decide)⟩
set_option maxRecDepth 100000 in
theorem qv_g2 : qv_G 10 38 0 (.int 1) := ⟨fun _ => ⟨"java/lang/String", "COMPACT_STRINGS", "Z", List.mem_of_getElem? (i := 2) rfl, qv_in1 (List.mem_of_getElem? (i := 221) rfl)⟩, fun h => absurd h (by decide)⟩
set_option maxRecDepth 100000 in
theorem qv_g3 : qv_G 10 1053 1 (.null) := ⟨fun h => absurd h (by decide), fun _ => ⟨"jdk/internal/util/Preconditions", "SIOOBE_FORMATTER", "Ljava/util/function/BiFunction;", List.mem_of_getElem? (i := 3) rfl, qv_in2 (List.mem_of_getElem? (i := 0) rfl)⟩⟩
def qv_gl_0 : List (Nat × Nat × Nat × Value) := [(7, 17, 0, .ref 1), (7, 28, 0, .ref 2), (10, 38, 0, .int 1), (10, 1053, 1, .null)]
theorem qv_gl_0_ok : ∀ e ∈ qv_gl_0, qv_G e.1 e.2.1 e.2.2.1 e.2.2.2 := List.forall_mem_cons.mpr ⟨qv_g0, List.forall_mem_cons.mpr ⟨qv_g1, List.forall_mem_cons.mpr ⟨qv_g2, List.forall_mem_cons.mpr ⟨qv_g3, fun _ h => absurd h List.not_mem_nil⟩⟩⟩⟩
def qv_gl : List (Nat × Nat × Nat × Value) := qv_gl_0
theorem qv_gl_ok : ∀ e ∈ qv_gl, qv_G e.1 e.2.1 e.2.2.1 e.2.2.2 := qv_gl_0_ok
def qv_C (o i c : Nat) : Prop := ∃ C N, qx_cl[c]? = some (C, qx_T c, N) ∧ Cond.classLink (qx_on o) i C ∈ lw_tbl ∧ Cond.instantiable C N ∈ lw_tbl ∧ Cond.initialized C ∈ lw_tbl
set_option maxRecDepth 100000 in
theorem qv_c0 : qv_C 0 7 0 := ⟨"OneRoof", 16, rfl, qv_in1 (List.mem_of_getElem? (i := 25) rfl), qv_in1 (List.mem_of_getElem? (i := 26) rfl), qv_in1 (List.mem_of_getElem? (i := 1) rfl)⟩
set_option maxRecDepth 100000 in
theorem qv_c1 : qv_C 0 10 12 := ⟨"OneRoofModel", 63, rfl, qv_in5 (List.mem_of_getElem? (i := 217) rfl), qv_in5 (List.mem_of_getElem? (i := 218) rfl), qv_in1 (List.mem_of_getElem? (i := 20) rfl)⟩
set_option maxRecDepth 100000 in
theorem qv_c2 : qv_C 1 7 1 := ⟨"OneRoof$Folk", 7, rfl, qv_in1 (List.mem_of_getElem? (i := 33) rfl), qv_in1 (List.mem_of_getElem? (i := 34) rfl), qv_in1 (List.mem_of_getElem? (i := 2) rfl)⟩
set_option maxRecDepth 100000 in
theorem qv_c3 : qv_C 1 16 2 := ⟨"OneRoof$Kinship", 2, rfl, qv_in1 (List.mem_of_getElem? (i := 77) rfl), qv_in1 (List.mem_of_getElem? (i := 78) rfl), qv_in1 (List.mem_of_getElem? (i := 3) rfl)⟩
set_option maxRecDepth 100000 in
theorem qv_c4 : qv_C 1 26 3 := ⟨"OneRoof$Feuds", 8, rfl, qv_in1 (List.mem_of_getElem? (i := 95) rfl), qv_in1 (List.mem_of_getElem? (i := 96) rfl), qv_in1 (List.mem_of_getElem? (i := 5) rfl)⟩
set_option maxRecDepth 100000 in
theorem qv_c5 : qv_C 1 33 4 := ⟨"OneRoof$Peaces", 8, rfl, qv_in1 (List.mem_of_getElem? (i := 129) rfl), qv_in1 (List.mem_of_getElem? (i := 130) rfl), qv_in1 (List.mem_of_getElem? (i := 6) rfl)⟩
set_option maxRecDepth 100000 in
theorem qv_c6 : qv_C 1 40 5 := ⟨"OneRoof$Acts", 2, rfl, qv_in1 (List.mem_of_getElem? (i := 169) rfl), qv_in1 (List.mem_of_getElem? (i := 170) rfl), qv_in1 (List.mem_of_getElem? (i := 7) rfl)⟩
set_option maxRecDepth 100000 in
theorem qv_c7 : qv_C 1 47 6 := ⟨"OneRoof$Pegs", 4, rfl, qv_in1 (List.mem_of_getElem? (i := 184) rfl), qv_in1 (List.mem_of_getElem? (i := 185) rfl), qv_in1 (List.mem_of_getElem? (i := 8) rfl)⟩
set_option maxRecDepth 100000 in
theorem qv_c8 : qv_C 1 54 7 := ⟨"OneRoof$Custom", 8, rfl, qv_in1 (List.mem_of_getElem? (i := 205) rfl), qv_in1 (List.mem_of_getElem? (i := 207) rfl), qv_in1 (List.mem_of_getElem? (i := 9) rfl)⟩
set_option maxRecDepth 100000 in
theorem qv_c9 : qv_C 1 67 8 := ⟨"OneRoof$Moment", 13, rfl, qv_in2 (List.mem_of_getElem? (i := 148) rfl), qv_in2 (List.mem_of_getElem? (i := 149) rfl), qv_in1 (List.mem_of_getElem? (i := 16) rfl)⟩
set_option maxRecDepth 100000 in
theorem qv_c10 : qv_C 1 76 9 := ⟨"OneRoof$Guests", 8, rfl, qv_in2 (List.mem_of_getElem? (i := 200) rfl), qv_in2 (List.mem_of_getElem? (i := 201) rfl), qv_in1 (List.mem_of_getElem? (i := 17) rfl)⟩
set_option maxRecDepth 100000 in
theorem qv_c11 : qv_C 1 85 10 := ⟨"OneRoof$Telling", 7, rfl, qv_in2 (List.mem_of_getElem? (i := 231) rfl), qv_in2 (List.mem_of_getElem? (i := 232) rfl), qv_in1 (List.mem_of_getElem? (i := 18) rfl)⟩
set_option maxRecDepth 100000 in
theorem qv_c12 : qv_C 1 95 11 := ⟨"OneRoof$History", 9, rfl, qv_in3 (List.mem_of_getElem? (i := 24) rfl), qv_in3 (List.mem_of_getElem? (i := 25) rfl), qv_in1 (List.mem_of_getElem? (i := 19) rfl)⟩
def qv_cl_0 : List (Nat × Nat × Nat) := [(0, 7, 0), (0, 10, 12), (1, 7, 1), (1, 16, 2), (1, 26, 3), (1, 33, 4), (1, 40, 5), (1, 47, 6), (1, 54, 7), (1, 67, 8), (1, 76, 9), (1, 85, 10), (1, 95, 11)]
theorem qv_cl_0_ok : ∀ e ∈ qv_cl_0, qv_C e.1 e.2.1 e.2.2 := List.forall_mem_cons.mpr ⟨qv_c0, List.forall_mem_cons.mpr ⟨qv_c1, List.forall_mem_cons.mpr ⟨qv_c2, List.forall_mem_cons.mpr ⟨qv_c3, List.forall_mem_cons.mpr ⟨qv_c4, List.forall_mem_cons.mpr ⟨qv_c5, List.forall_mem_cons.mpr ⟨qv_c6, List.forall_mem_cons.mpr ⟨qv_c7, List.forall_mem_cons.mpr ⟨qv_c8, List.forall_mem_cons.mpr ⟨qv_c9, List.forall_mem_cons.mpr ⟨qv_c10, List.forall_mem_cons.mpr ⟨qv_c11, List.forall_mem_cons.mpr ⟨qv_c12, fun _ h => absurd h List.not_mem_nil⟩⟩⟩⟩⟩⟩⟩⟩⟩⟩⟩⟩⟩
def qv_cl : List (Nat × Nat × Nat) := qv_cl_0
theorem qv_cl_ok : ∀ e ∈ qv_cl, qv_C e.1 e.2.1 e.2.2 := qv_cl_0_ok
/-- an entry whose number stands in these lists -/
def qv_chk (o : Nat) (q : qm_I) : Bool := match q.2.1 with
  | .getfield i => q.2.2.2.2.2.1 == 9 || (qv_flp (o * 65536 + i)).contains (o, i, q.2.2.2.1, q.2.2.2.2.1, q.2.2.2.2.2.1)
  | .putfield i => q.2.2.2.2.2.1 != 0 || (qv_flp (o * 65536 + i)).contains (o, i, q.2.2.2.1, q.2.2.2.2.1, q.2.2.2.2.2.1) && decide (q.2.2.2.1 < 13)
  | .getstatic i => decide ((o, i, q.2.2.2.2.2.1, q.2.2.2.2.2.2) ∈ qv_gl)
  | .ldc i => q.2.2.2.2.2.1 == 9 || decide ((o, i, q.2.2.2.2.2.1, q.2.2.2.2.2.2) ∈ qv_kl)
  | .ldc_w i => q.2.2.2.2.2.1 == 9 || decide ((o, i, q.2.2.2.2.2.1, q.2.2.2.2.2.2) ∈ qv_kl)
  | .ldc2_w i => q.2.2.2.2.2.1 == 9 || decide ((o, i, q.2.2.2.2.2.1, q.2.2.2.2.2.2) ∈ qv_kl)
  | .new i => q.2.2.2.2.2.1 != 0 || qv_cl.contains (o, i, q.2.2.2.1)
  | .anewarray i => q.2.2.2.2.2.1 != 0 || qv_cl.contains (o, i, q.2.2.2.1)
  | .invokevirtual i => q.2.2.2.2.2.1 == 9 || (match q.2.2.2.2.2.2 with | .ref c => (qv_vlp (o * 65536 + i)).contains (o, i, q.2.2.2.1, q.2.2.2.2.1, q.2.2.2.2.2.1, c) | _ => false)
  | .invokestatic i => q.2.2.2.2.2.1 == 9 || (q.2.2.2.2.2.1 == 7 && qv_al.contains (o, i)) || (q.2.2.2.2.2.1 != 7 && qv_ul.contains (o, i, q.2.2.2.1, q.2.2.2.2.1, q.2.2.2.2.2.1))
  | .invokespecial i => q.2.2.2.2.2.1 == 9 || (q.2.2.2.2.2.1 == 6 && qv_bl.contains (o, i)) || (q.2.2.2.2.2.1 != 6 && qv_nl.contains (o, i, q.2.2.2.1, q.2.2.2.2.1, q.2.2.2.2.2.1))
  | _ => true
theorem qv_chk_ok {o : Nat} {q : qm_I} (h : qv_chk o q = true) : qs_ok o q := by
  obtain ⟨pc, i, len, r1, r2, r3, rv⟩ := q
  cases i with
  | getfield i =>
    have h : (r3 == 9 || (qv_flp (o * 65536 + i)).contains (o, i, r1, r2, r3)) = true := h
    rw [Bool.or_eq_true] at h
    rcases h with h | h
    · exact Or.inl (by simpa using h)
    · have h1 : qv_F o i r1 r2 r3 := qv_flp_ok (o * 65536 + i) (o, i, r1, r2, r3) (List.contains_iff_mem.mp h)
      rcases h1 with h1 | ⟨h1, C, N, h2, h3, -, h4⟩
      · exact Or.inr (Or.inl h1)
      · refine Or.inr (Or.inr ⟨h1, C, N, h2, h3, ?_⟩)
        rcases h4 with h4 | ⟨-, h4⟩
        · exact Or.inl h4
        · exact Or.inr h4
  | putfield i =>
    have h : (r3 != 0 || (qv_flp (o * 65536 + i)).contains (o, i, r1, r2, r3) && decide (r1 < 13)) = true := h
    rw [Bool.or_eq_true] at h
    rcases h with h | h
    · exact Or.inl (by simpa using h)
    · rw [Bool.and_eq_true, decide_eq_true_eq] at h
      by_cases h0 : r3 = 0
      · have h1 : qv_F o i r1 r2 r3 := qv_flp_ok (o * 65536 + i) (o, i, r1, r2, r3) (List.contains_iff_mem.mp h.1)
        rcases h1 with ⟨-, h1, -⟩ | ⟨h1, C, N, h2, h3, h5, h4⟩
        · omega
        · refine Or.inr ⟨h5, C, N, h2, h3, ?_⟩
          rcases h4 with ⟨-, h4⟩ | ⟨h4, -⟩
          · exact h4
          · omega
      · exact Or.inl h0
  | getstatic i =>
    have h : decide ((o, i, r3, rv) ∈ qv_gl) = true := h
    exact qv_gl_ok _ (of_decide_eq_true h)
  | ldc i =>
    have h : (r3 == 9 || decide ((o, i, r3, rv) ∈ qv_kl)) = true := h
    rw [Bool.or_eq_true] at h
    rcases h with h | h
    · have h : r3 = 9 := by simpa using h
      exact ⟨fun z => by have z : r3 = 0 := z; omega, fun z => by have z : r3 = 1 := z; omega⟩
    · have h1 := qv_kl_ok _ (of_decide_eq_true h)
      exact ⟨h1.1, h1.2.1⟩
  | ldc_w i =>
    have h : (r3 == 9 || decide ((o, i, r3, rv) ∈ qv_kl)) = true := h
    rw [Bool.or_eq_true] at h
    rcases h with h | h
    · have h : r3 = 9 := by simpa using h
      exact fun z => by have z : r3 = 0 := z; omega
    · exact (qv_kl_ok _ (of_decide_eq_true h)).1
  | ldc2_w i =>
    have h : (r3 == 9 || decide ((o, i, r3, rv) ∈ qv_kl)) = true := h
    rw [Bool.or_eq_true] at h
    rcases h with h | h
    · have h : r3 = 9 := by simpa using h
      exact fun z => by have z : r3 = 2 := z; omega
    · exact (qv_kl_ok _ (of_decide_eq_true h)).2.2
  | new i =>
    have h : (r3 != 0 || qv_cl.contains (o, i, r1)) = true := h
    rw [Bool.or_eq_true] at h
    intro h0
    have h0 : r3 = 0 := h0
    rcases h with h | h
    · exact absurd h0 (by simpa using h)
    · exact qv_cl_ok _ (List.contains_iff_mem.mp h)
  | anewarray i =>
    have h : (r3 != 0 || qv_cl.contains (o, i, r1)) = true := h
    rw [Bool.or_eq_true] at h
    intro h0 h7
    have h0 : r3 = 0 := h0
    have h7 : r1 = 7 := h7
    rcases h with h | h
    · exact absurd h0 (by simpa using h)
    · obtain ⟨C, N, h1, h2, -⟩ := qv_cl_ok _ (List.contains_iff_mem.mp h)
      subst h7
      cases h1
      exact h2
  | invokevirtual i =>
    intro h3
    have h3 : r3 = 0 ∨ r3 = 1 := h3
    cases rv with
    | ref c =>
      have h : (r3 == 9 || (qv_vlp (o * 65536 + i)).contains (o, i, r1, r2, r3, c)) = true := h
      rw [Bool.or_eq_true] at h
      rcases h with h | h
      · have h : r3 = 9 := by simpa using h
        omega
      · exact qv_vlp_ok (o * 65536 + i) _ (List.contains_iff_mem.mp h)
    | _ =>
      have h : (r3 == 9 || false) = true := h
      have h : r3 = 9 := by simpa using h
      omega
  | invokestatic i =>
    have h : (r3 == 9 || (r3 == 7 && qv_al.contains (o, i)) || (r3 != 7 && qv_ul.contains (o, i, r1, r2, r3))) = true := h
    rw [Bool.or_eq_true, Bool.or_eq_true, Bool.and_eq_true, Bool.and_eq_true] at h
    rcases h with (h | h) | h
    · have h : r3 = 9 := by simpa using h
      exact ⟨fun z => by have z : r3 = 2 ∨ r3 = 3 := z; omega, fun z => by have z : r3 = 7 := z; omega⟩
    · have h7 : r3 = 7 := by simpa using h.1
      exact ⟨fun z => by have z : r3 = 2 ∨ r3 = 3 := z; omega, fun _ => qv_al_ok (o, i) (List.contains_iff_mem.mp h.2)⟩
    · have h7 : ¬ r3 = 7 := by simpa using h.1
      exact ⟨fun _ => qv_ul_ok _ (List.contains_iff_mem.mp h.2), fun z => absurd z h7⟩
  | invokespecial i =>
    have h : (r3 == 9 || (r3 == 6 && qv_bl.contains (o, i)) || (r3 != 6 && qv_nl.contains (o, i, r1, r2, r3))) = true := h
    rw [Bool.or_eq_true, Bool.or_eq_true, Bool.and_eq_true, Bool.and_eq_true] at h
    rcases h with (h | h) | h
    · have h : r3 = 9 := by simpa using h
      exact ⟨fun z => by have z : r3 = 6 := z; omega, fun z => by have z : r3 = 4 ∨ r3 = 5 := z; omega⟩
    · have h7 : r3 = 6 := by simpa using h.1
      exact ⟨fun _ => qv_bl_ok (o, i) (List.contains_iff_mem.mp h.2), fun z => by have z : r3 = 4 ∨ r3 = 5 := z; omega⟩
    · have h7 : ¬ r3 = 6 := by simpa using h.1
      exact ⟨fun z => absurd z h7, fun _ => qv_nl_ok _ (List.contains_iff_mem.mp h.2)⟩
  | _ => trivial
