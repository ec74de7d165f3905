/-! what lies outside, at the start of the law -/
theorem we_i0 : Cond.instantiable "OneRoof" 16 ∈ lw_tbl := List.mem_of_getElem? (i := 100) (by decide +kernel)
theorem we_i1 : Cond.instantiable "OneRoof$Folk" 7 ∈ lw_tbl := List.mem_of_getElem? (i := 108) (by decide +kernel)
theorem we_i2 : Cond.instantiable "OneRoof$Kinship" 2 ∈ lw_tbl := List.mem_of_getElem? (i := 152) (by decide +kernel)
theorem we_i3 : Cond.instantiable "OneRoof$Feuds" 8 ∈ lw_tbl := List.mem_of_getElem? (i := 170) (by decide +kernel)
theorem we_i4 : Cond.instantiable "OneRoof$Peaces" 8 ∈ lw_tbl := List.mem_of_getElem? (i := 204) (by decide +kernel)
theorem we_i5 : Cond.instantiable "OneRoof$Acts" 2 ∈ lw_tbl := List.mem_of_getElem? (i := 244) (by decide +kernel)
theorem we_i6 : Cond.instantiable "OneRoof$Pegs" 4 ∈ lw_tbl := List.mem_of_getElem? (i := 259) (by decide +kernel)
theorem we_i7 : Cond.instantiable "OneRoof$Custom" 8 ∈ lw_tbl := List.mem_of_getElem? (i := 281) (by decide +kernel)
theorem we_i8 : Cond.instantiable "OneRoof$Moment" 13 ∈ lw_tbl := List.mem_of_getElem? (i := 463) (by decide +kernel)
theorem we_i9 : Cond.instantiable "OneRoof$Guests" 8 ∈ lw_tbl := List.mem_of_getElem? (i := 515) (by decide +kernel)
theorem we_i10 : Cond.instantiable "OneRoof$Telling" 7 ∈ lw_tbl := List.mem_of_getElem? (i := 546) (by decide +kernel)
theorem we_i11 : Cond.instantiable "OneRoof$History" 9 ∈ lw_tbl := List.mem_of_getElem? (i := 579) (by decide +kernel)
theorem we_i12 : Cond.instantiable "OneRoofModel" 63 ∈ lw_tbl := List.mem_of_getElem? (i := 1252) (by decide +kernel)
theorem we_inst (c : Nat) (r : vw_C) (h : qx_cl[c]? = some r) : Cond.instantiable r.1 r.2.2 ∈ lw_tbl := by
  have hl : c < 13 := (List.getElem?_eq_some_iff.mp h).1
  have hc : c = 0 ∨ c = 1 ∨ c = 2 ∨ c = 3 ∨ c = 4 ∨ c = 5 ∨ c = 6 ∨ c = 7 ∨ c = 8 ∨ c = 9 ∨ c = 10 ∨ c = 11 ∨ c = 12 := by omega
  rcases hc with rfl | rfl | rfl | rfl | rfl | rfl | rfl | rfl | rfl | rfl | rfl | rfl | rfl
  · exact (Option.some.inj (show some ("OneRoof", qx_F0, 16) = some r from h)) ▸ we_i0
  · exact (Option.some.inj (show some ("OneRoof$Folk", qx_F1, 7) = some r from h)) ▸ we_i1
  · exact (Option.some.inj (show some ("OneRoof$Kinship", qx_F2, 2) = some r from h)) ▸ we_i2
  · exact (Option.some.inj (show some ("OneRoof$Feuds", qx_F3, 8) = some r from h)) ▸ we_i3
  · exact (Option.some.inj (show some ("OneRoof$Peaces", qx_F4, 8) = some r from h)) ▸ we_i4
  · exact (Option.some.inj (show some ("OneRoof$Acts", qx_F5, 2) = some r from h)) ▸ we_i5
  · exact (Option.some.inj (show some ("OneRoof$Pegs", qx_F6, 4) = some r from h)) ▸ we_i6
  · exact (Option.some.inj (show some ("OneRoof$Custom", qx_F7, 8) = some r from h)) ▸ we_i7
  · exact (Option.some.inj (show some ("OneRoof$Moment", qx_F8, 13) = some r from h)) ▸ we_i8
  · exact (Option.some.inj (show some ("OneRoof$Guests", qx_F9, 8) = some r from h)) ▸ we_i9
  · exact (Option.some.inj (show some ("OneRoof$Telling", qx_F10, 7) = some r from h)) ▸ we_i10
  · exact (Option.some.inj (show some ("OneRoof$History", qx_F11, 9) = some r from h)) ▸ we_i11
  · exact (Option.some.inj (show some ("OneRoofModel", qx_F12, 63) = some r from h)) ▸ we_i12
theorem we_over : Cond.arrayOver (.object "OneRoof$Custom") ∈ lw_tbl := List.mem_of_getElem? (i := 280) (by decide +kernel)
theorem we_s0 : Cond.stringRef "OneRoof" 56 "f&!c" ∈ lw_tbl := List.mem_of_getElem? (i := 282) (by decide +kernel)
theorem we_s1 : Cond.stringRef "OneRoof$Custom" 98 "fncwvlkod" ∈ lw_tbl := List.mem_of_getElem? (i := 369) (by decide +kernel)
theorem we_s2 : Cond.stringRef "OneRoof" 61 "d<2&w" ∈ lw_tbl := List.mem_of_getElem? (i := 461) (by decide +kernel)
theorem we_s3 : Cond.stringRef "OneRoof" 108 "0" ∈ lw_tbl := List.mem_of_getElem? (i := 613) (by decide +kernel)
theorem we_l0 : Cond.laysStatic "OneRoof$Acts" "ABOVE" "[I" ∈ lw_tbl := List.mem_of_getElem? (i := 1174) (by decide +kernel)
theorem we_n0 : Cond.initialized "OneRoof$Acts" ∈ lw_tbl := List.mem_of_getElem? (i := 81) (by decide +kernel)
theorem we_l1 : Cond.laysStatic "OneRoof$Acts" "BODIES" "[I" ∈ lw_tbl := List.mem_of_getElem? (i := 1176) (by decide +kernel)
theorem we_n1 : Cond.initialized "OneRoof$Acts" ∈ lw_tbl := List.mem_of_getElem? (i := 81) (by decide +kernel)
theorem we_l2 : Cond.laysStatic "java/lang/String" "COMPACT_STRINGS" "Z" ∈ lw_tbl := List.mem_of_getElem? (i := 296) (by decide +kernel)
theorem we_n2 : Cond.initialized "java/lang/String" ∈ lw_tbl := List.mem_of_getElem? (i := 84) (by decide +kernel)
theorem we_l3 : Cond.laysStatic "jdk/internal/util/Preconditions" "SIOOBE_FORMATTER" "Ljava/util/function/BiFunction;" ∈ lw_tbl := List.mem_of_getElem? (i := 315) (by decide +kernel)
theorem we_n3 : Cond.initialized "jdk/internal/util/Preconditions" ∈ lw_tbl := List.mem_of_getElem? (i := 87) (by decide +kernel)
theorem we_nest : ∀ w ∈ qx_nest, w.onTables = true ∧ w ∈ lw_tbl := by
  unfold qx_nest
  exact List.forall_mem_cons.mpr ⟨⟨rfl, List.mem_of_getElem? (i := 109) (by decide +kernel)⟩, List.forall_mem_cons.mpr ⟨⟨rfl, List.mem_of_getElem? (i := 161) (by decide +kernel)⟩, List.forall_mem_cons.mpr ⟨⟨rfl, List.mem_of_getElem? (i := 171) (by decide +kernel)⟩, List.forall_mem_cons.mpr ⟨⟨rfl, List.mem_of_getElem? (i := 205) (by decide +kernel)⟩, List.forall_mem_cons.mpr ⟨⟨rfl, List.mem_of_getElem? (i := 245) (by decide +kernel)⟩, List.forall_mem_cons.mpr ⟨⟨rfl, List.mem_of_getElem? (i := 260) (by decide +kernel)⟩, List.forall_mem_cons.mpr ⟨⟨rfl, List.mem_of_getElem? (i := 675) (by decide +kernel)⟩, List.forall_mem_cons.mpr ⟨⟨rfl, List.mem_of_getElem? (i := 729) (by decide +kernel)⟩, List.forall_mem_cons.mpr ⟨⟨rfl, List.mem_of_getElem? (i := 893) (by decide +kernel)⟩, List.forall_mem_cons.mpr ⟨⟨rfl, List.mem_of_getElem? (i := 915) (by decide +kernel)⟩, List.forall_mem_cons.mpr ⟨⟨rfl, List.mem_of_getElem? (i := 920) (by decide +kernel)⟩, List.forall_mem_cons.mpr ⟨⟨rfl, List.mem_of_getElem? (i := 980) (by decide +kernel)⟩, List.forall_mem_cons.mpr ⟨⟨rfl, List.mem_of_getElem? (i := 1054) (by decide +kernel)⟩, List.forall_mem_cons.mpr ⟨⟨rfl, List.mem_of_getElem? (i := 1104) (by decide +kernel)⟩, List.forall_mem_cons.mpr ⟨⟨rfl, List.mem_of_getElem? (i := 1105) (by decide +kernel)⟩, fun _ h => absurd h List.not_mem_nil⟩⟩⟩⟩⟩⟩⟩⟩⟩⟩⟩⟩⟩⟩⟩
theorem we_Xok (L : Nat) (xs : Nat → Int) (vb : Bool) : qs_Xok (qe L xs vb) := by
  intro a ty mm f h
  have h : qe_cells L xs a = some (.inl (ty, mm, f)) := h
  unfold qe_cells at h
  split at h <;> first | (cases h; exact ⟨_, rfl⟩) | cases h
theorem we_K {s : State} {args : Array Value} (hts : ∀ w ∈ lw_tbl, w.before args s = true) : ∃ (D : va_G) (cA : FieldType → ClassId), va_K D qx_cl (qs_tys cA) s := by
  have hcl : ∀ c : Nat, ∃ q : Nat × (Nat → Nat), ∀ r, qx_cl[c]? = some r → u_Kn s r.1 r.2.1 r.2.2 q.1 q.2 := by
    intro c
    cases hc : qx_cl[c]? with
    | none => exact ⟨(0, fun _ => 0), fun r h => by cases h⟩
    | some r =>
      obtain ⟨cC, iS, h⟩ := u_known (ws := lw_tbl) (C := r.1) (T := r.2.1) (N := r.2.2) hts (qv_all.1 c r hc).2.1 (hts _ (we_inst c r hc))
      exact ⟨(cC, iS), fun r' h' => by cases h'; exact h⟩
  obtain ⟨D, hD⟩ := Classical.axiomOfChoice hcl
  obtain ⟨c1, k1, m1, h11, h12, h13⟩ := Cond.arrayClass_spec (hts _ qv_all.2.1.1)
  obtain ⟨c2, k2, m2, h21, h22, h23⟩ := Cond.arrayClass_spec (hts _ qv_all.2.1.2.1)
  obtain ⟨c3, k3, m3, h31, h32, h33⟩ := Cond.arrayClass_spec (hts _ qv_all.2.1.2.2.1)
  obtain ⟨m4, c4, k4, f1, -, f2, f3, f4⟩ := Cond.arrayOver_spec (hts _ we_over)
  refine ⟨(fun c => (D c).1, fun c => (D c).2), fun ty => match ty with | .int => c1 | .long => c2 | .boolean => c3 | _ => c4, hD, ?_⟩
  intro k q hq
  have hk : k < 4 := (List.getElem?_eq_some_iff.mp hq).1
  have hk4 : k = 0 ∨ k = 1 ∨ k = 2 ∨ k = 3 := by omega
  rcases hk4 with rfl | rfl | rfl | rfl
  · obtain rfl : (c1, FieldType.int) = q := Option.some.inj hq
    exact ⟨fun n z => ⟨fun k h => (by cases h), k1, h12, m1, h13⟩, h11⟩
  · obtain rfl : (c2, FieldType.long) = q := Option.some.inj hq
    exact ⟨fun n z => ⟨fun k h => (by cases h), k2, h22, m2, h23⟩, h21⟩
  · obtain rfl : (c3, FieldType.boolean) = q := Option.some.inj hq
    exact ⟨fun n z => ⟨fun k h => (by cases h), k3, h32, m3, h33⟩, h31⟩
  · obtain rfl : (c4, FieldType.object "OneRoof$Custom") = q := Option.some.inj hq
    exact ⟨fun n z => ⟨fun k h => (by cases h), k4, f2, m4, f3⟩, k4, m4, f2, f3, f1, f4⟩
def we_tm (i : Nat) : Term := [Term.string "OneRoof" 56, Term.string "OneRoof$Custom" 98, Term.string "OneRoof" 61, Term.string "OneRoof" 108].getD i (Term.string "OneRoof" 56)
def we_len : List Nat := [4, 9, 5, 1]
def we_byt : List (List Int32) := [(qe_bytes 3).map qz, (qe_bytes 4).map qz, (qe_bytes 5).map qz, (qe_bytes 6).map qz]
theorem we_getD (l : List Int) (k : Nat) : (l.map qz).getD k 0 = qz (l.getD k 0) := by
  rw [List.getD_eq_getElem?_getD, List.getD_eq_getElem?_getD, List.getElem?_map]
  cases l[k]? <;> rfl

theorem we_ex {args : Array Value} {s : State} (hf : ∀ w ∈ flatC (Cond.and given_1 narrow_1), w.before args s = true) : ∀ i : Nat, i < 4 → (Cond.exactly (we_tm i) "java/lang/String").before args s = true := by
  intro i hi
  have hi4 : i = 0 ∨ i = 1 ∨ i = 2 ∨ i = 3 := by omega
  rcases hi4 with rfl | rfl | rfl | rfl
  · exact hf _ (by decide +kernel)
  · exact hf _ (by decide +kernel)
  · exact hf _ (by decide +kernel)
  · exact hf _ (by decide +kernel)
theorem we_co {args : Array Value} {s : State} (hf : ∀ w ∈ flatC (Cond.and given_1 narrow_1), w.before args s = true) : ∀ i : Nat, i < 4 → (Cond.eq (.field (we_tm i) "java/lang/String" "coder" "B") (.int 0)).before args s = true := by
  intro i hi
  have hi4 : i = 0 ∨ i = 1 ∨ i = 2 ∨ i = 3 := by omega
  rcases hi4 with rfl | rfl | rfl | rfl
  · exact hf _ (by decide +kernel)
  · exact hf _ (by decide +kernel)
  · exact hf _ (by decide +kernel)
  · exact hf _ (by decide +kernel)
theorem we_ar {args : Array Value} {s : State} (hf : ∀ w ∈ flatC (Cond.and given_1 narrow_1), w.before args s = true) : ∀ i : Nat, i < 4 → (Cond.arrayOf (.field (we_tm i) "java/lang/String" "value" "[B") .byte).before args s = true := by
  intro i hi
  have hi4 : i = 0 ∨ i = 1 ∨ i = 2 ∨ i = 3 := by omega
  rcases hi4 with rfl | rfl | rfl | rfl
  · exact hf _ (by decide +kernel)
  · exact hf _ (by decide +kernel)
  · exact hf _ (by decide +kernel)
  · exact hf _ (by decide +kernel)
theorem we_le {args : Array Value} {s : State} (hf : ∀ w ∈ flatC (Cond.and given_1 narrow_1), w.before args s = true) : ∀ i : Nat, i < 4 → (Cond.eq (.length (.field (we_tm i) "java/lang/String" "value" "[B")) (.int (Int32.ofNat (we_len.getD i 0)))).before args s = true := by
  intro i hi
  have hi4 : i = 0 ∨ i = 1 ∨ i = 2 ∨ i = 3 := by omega
  rcases hi4 with rfl | rfl | rfl | rfl
  · exact hf _ (by decide +kernel)
  · exact hf _ (by decide +kernel)
  · exact hf _ (by decide +kernel)
  · exact hf _ (by decide +kernel)
theorem we_el {args : Array Value} {s : State} (hf : ∀ w ∈ flatC (Cond.and given_1 narrow_1), w.before args s = true) : ∀ i : Nat, i < 4 → ∀ j : Nat, j < we_len.getD i 0 → (Cond.eq (.elem (.field (we_tm i) "java/lang/String" "value" "[B") (.int (Int32.ofNat j))) (.int ((we_byt.getD i []).getD j 0))).before args s = true := by
  intro i hi
  have hi4 : i = 0 ∨ i = 1 ∨ i = 2 ∨ i = 3 := by omega
  rcases hi4 with rfl | rfl | rfl | rfl
  · intro j hj
    have hj : j < 4 := hj
    have hj2 : j = 0 ∨ j = 1 ∨ j = 2 ∨ j = 3 := by omega
    rcases hj2 with rfl | rfl | rfl | rfl <;> exact hf _ (by decide +kernel)
  · intro j hj
    have hj : j < 9 := hj
    have hj2 : j = 0 ∨ j = 1 ∨ j = 2 ∨ j = 3 ∨ j = 4 ∨ j = 5 ∨ j = 6 ∨ j = 7 ∨ j = 8 := by omega
    rcases hj2 with rfl | rfl | rfl | rfl | rfl | rfl | rfl | rfl | rfl <;> exact hf _ (by decide +kernel)
  · intro j hj
    have hj : j < 5 := hj
    have hj2 : j = 0 ∨ j = 1 ∨ j = 2 ∨ j = 3 ∨ j = 4 := by omega
    rcases hj2 with rfl | rfl | rfl | rfl | rfl <;> exact hf _ (by decide +kernel)
  · intro j hj
    have hj : j < 1 := hj
    have hj2 : j = 0 := by omega
    rcases hj2 with rfl <;> exact hf _ (by decide +kernel)
theorem we_ne {args : Array Value} {s : State} (hf : ∀ w ∈ flatC (Cond.and given_1 narrow_1), w.before args s = true) : ∀ i j : Nat, i < 4 → j < 4 → i ≠ j → (Cond.not (Cond.eq (we_tm i) (we_tm j))).before args s = true ∨ (Cond.not (Cond.eq (we_tm j) (we_tm i))).before args s = true := by
  intro i j hi hj hij
  have hi4 : i = 0 ∨ i = 1 ∨ i = 2 ∨ i = 3 := by omega
  have hj4 : j = 0 ∨ j = 1 ∨ j = 2 ∨ j = 3 := by omega
  rcases hi4 with rfl | rfl | rfl | rfl <;> rcases hj4 with rfl | rfl | rfl | rfl <;> first | exact absurd rfl hij | exact Or.inl (hf _ (by decide +kernel)) | exact Or.inr (hf _ (by decide +kernel))
def we_A : Term := .static "OneRoof$Acts" "ABOVE" "[I"
def we_B : Term := .static "OneRoof$Acts" "BODIES" "[I"
theorem we_elA {args : Array Value} {s : State} (hf : ∀ w ∈ flatC (Cond.and given_1 narrow_1), w.before args s = true) : ∀ j : Nat, j < 7 → (Term.elem we_A (.int (Int32.ofNat j))).eval args s none [] s = some (.int (qzf (fun k => qe_above.getD k 0) j)) := by
  intro j hj
  have hj2 : j = 0 ∨ j = 1 ∨ j = 2 ∨ j = 3 ∨ j = 4 ∨ j = 5 ∨ j = 6 := by omega
  rcases hj2 with rfl | rfl | rfl | rfl | rfl | rfl | rfl <;> exact va_eqt (hf _ (by decide +kernel))
theorem we_elB {args : Array Value} {s : State} (hf : ∀ w ∈ flatC (Cond.and given_1 narrow_1), w.before args s = true) : ∀ j : Nat, j < 28 → (Term.elem we_B (.int (Int32.ofNat j))).eval args s none [] s = some (.int (qzf (fun k => qe_bodies.getD k 0) j)) := by
  intro j hj
  have hj2 : j = 0 ∨ j = 1 ∨ j = 2 ∨ j = 3 ∨ j = 4 ∨ j = 5 ∨ j = 6 ∨ j = 7 ∨ j = 8 ∨ j = 9 ∨ j = 10 ∨ j = 11 ∨ j = 12 ∨ j = 13 ∨ j = 14 ∨ j = 15 ∨ j = 16 ∨ j = 17 ∨ j = 18 ∨ j = 19 ∨ j = 20 ∨ j = 21 ∨ j = 22 ∨ j = 23 ∨ j = 24 ∨ j = 25 ∨ j = 26 ∨ j = 27 := by omega
  rcases hj2 with rfl | rfl | rfl | rfl | rfl | rfl | rfl | rfl | rfl | rfl | rfl | rfl | rfl | rfl | rfl | rfl | rfl | rfl | rfl | rfl | rfl | rfl | rfl | rfl | rfl | rfl | rfl | rfl <;> exact va_eqt (hf _ (by decide +kernel))
theorem we_X {s : State} {b L : Nat} {xs : Nat → Int32} {vb : Bool} {t1 t2 t3 : Nat} {adK adV : Nat → Nat} (hts : ∀ w ∈ lw_tbl, w.before #[Value.ref b] s = true) (hX : va_X b L xs s s.heap) (hbl : b < s.heap.size)
    (hS : vk_S 4 we_len we_byt adK adV (qs_A s.heap.size) s s.heap) (hK : ∀ i : Nat, i < 4 → (we_tm i).eval #[Value.ref b] s none [] s = some (.ref (adK i)))
    (hT1 : va_T .int t1 7 (fun k => .int (qzf (fun k => qe_above.getD k 0) k)) (qs_A s.heap.size) s s.heap) (hT2 : va_T .int t2 28 (fun k => .int (qzf (fun k => qe_bodies.getD k 0) k)) (qs_A s.heap.size) s s.heap)
    (hZ0 : va_Z "OneRoof$Acts" "ABOVE" "[I" (.ref t1) (qs_A s.heap.size) s s.heap) (hZ1 : va_Z "OneRoof$Acts" "BODIES" "[I" (.ref t2) (qs_A s.heap.size) s s.heap) (hZ2 : va_Z "java/lang/String" "COMPACT_STRINGS" "Z" (.int 1) (qs_A s.heap.size) s s.heap) (hZ3 : va_Z "jdk/internal/util/Preconditions" "SIOOBE_FORMATTER" "Ljava/util/function/BiFunction;" (match vb with | true => .null | false => .ref t3) (qs_A s.heap.size) s s.heap) :
    qs_X (fun j => if j = 0 then b else if j = 1 then t1 else if j = 2 then t2 else if j < 7 then adK (j - 3) else if j < 11 then adV (j - 7) else t3) s.heap.size (qe L (fun k => (xs k).toInt) vb) s s.heap := by
  have hA : ∀ a : Nat, a < s.heap.size → ¬ qs_A s.heap.size a := fun a h1 h2 => absurd h1 (Nat.not_lt.mpr h2)
  refine ⟨fun j n ty f hj h => ?_, fun j ci fs hj h => ?_, ?_, ?_, fun w hw => va_Nw.of (we_nest w hw).1 (hts w (we_nest w hw).2), hts _ we_over⟩
  · have hj2 : j = 0 ∨ j = 1 ∨ j = 2 ∨ j = 3 ∨ j = 4 ∨ j = 5 ∨ j = 6 ∨ j = 7 ∨ j = 8 ∨ j = 9 ∨ j = 10 ∨ j = 11 ∨ j = 12 ∨ j = 13 ∨ j = 14 ∨ j = 15 := by omega
    rcases hj2 with rfl | rfl | rfl | rfl | rfl | rfl | rfl | rfl | rfl | rfl | rfl | rfl | rfl | rfl | rfl | rfl
    · cases h
      obtain ⟨scr, h1, h2, h3, h4, h5⟩ := hX
      exact ⟨scr, h1, h2, h3, Nat.le_of_eq h4.symm, by rw [h4] <;> rfl, fun j hj => (h5 j hj).trans (congrArg (fun z => some (Value.int z)) (qz_of (xs j))), hA b hbl⟩
    · cases h
      exact hT1
    · cases h
      exact hT2
    · cases h
    · cases h
    · cases h
    · cases h
    · cases h
      have h7 := (hS.1 0 (by decide)).2.2.2
      have e7 : (fun k => Value.int (qzf (fun k => (qe_bytes 3).getD k 0) k)) = fun j => Value.int ((we_byt.getD 0 []).getD j 0) := funext fun k => congrArg Value.int (we_getD (qe_bytes 3) k).symm
      show va_T .byte (adV 0) 4 (fun k => Value.int (qzf (fun k => (qe_bytes 3).getD k 0) k)) _ _ _
      rw [e7]
      exact h7
    · cases h
      have h7 := (hS.1 1 (by decide)).2.2.2
      have e7 : (fun k => Value.int (qzf (fun k => (qe_bytes 4).getD k 0) k)) = fun j => Value.int ((we_byt.getD 1 []).getD j 0) := funext fun k => congrArg Value.int (we_getD (qe_bytes 4) k).symm
      show va_T .byte (adV 1) 9 (fun k => Value.int (qzf (fun k => (qe_bytes 4).getD k 0) k)) _ _ _
      rw [e7]
      exact h7
    · cases h
      have h7 := (hS.1 2 (by decide)).2.2.2
      have e7 : (fun k => Value.int (qzf (fun k => (qe_bytes 5).getD k 0) k)) = fun j => Value.int ((we_byt.getD 2 []).getD j 0) := funext fun k => congrArg Value.int (we_getD (qe_bytes 5) k).symm
      show va_T .byte (adV 2) 5 (fun k => Value.int (qzf (fun k => (qe_bytes 5).getD k 0) k)) _ _ _
      rw [e7]
      exact h7
    · cases h
      have h7 := (hS.1 3 (by decide)).2.2.2
      have e7 : (fun k => Value.int (qzf (fun k => (qe_bytes 6).getD k 0) k)) = fun j => Value.int ((we_byt.getD 3 []).getD j 0) := funext fun k => congrArg Value.int (we_getD (qe_bytes 6) k).symm
      show va_T .byte (adV 3) 1 (fun k => Value.int (qzf (fun k => (qe_bytes 6).getD k 0) k)) _ _ _
      rw [e7]
      exact h7
    · cases h
    · cases h
    · cases h
    · cases h
    · cases h
  · have hj2 : j = 0 ∨ j = 1 ∨ j = 2 ∨ j = 3 ∨ j = 4 ∨ j = 5 ∨ j = 6 ∨ j = 7 ∨ j = 8 ∨ j = 9 ∨ j = 10 ∨ j = 11 ∨ j = 12 ∨ j = 13 ∨ j = 14 ∨ j = 15 := by omega
    rcases hj2 with rfl | rfl | rfl | rfl | rfl | rfl | rfl | rfl | rfl | rfl | rfl | rfl | rfl | rfl | rfl | rfl
    · cases h
    · cases h
    · cases h
    · cases h
      refine ⟨rfl, (hS.1 0 (by decide)).1, fun v hv => ?_, fun v hv => ?_⟩
      · obtain rfl := Option.some.inj hv
        exact (hS.1 0 (by decide)).2.2.1
      · obtain rfl := Option.some.inj hv
        exact (hS.1 0 (by decide)).2.1
    · cases h
      refine ⟨rfl, (hS.1 1 (by decide)).1, fun v hv => ?_, fun v hv => ?_⟩
      · obtain rfl := Option.some.inj hv
        exact (hS.1 1 (by decide)).2.2.1
      · obtain rfl := Option.some.inj hv
        exact (hS.1 1 (by decide)).2.1
    · cases h
      refine ⟨rfl, (hS.1 2 (by decide)).1, fun v hv => ?_, fun v hv => ?_⟩
      · obtain rfl := Option.some.inj hv
        exact (hS.1 2 (by decide)).2.2.1
      · obtain rfl := Option.some.inj hv
        exact (hS.1 2 (by decide)).2.1
    · cases h
      refine ⟨rfl, (hS.1 3 (by decide)).1, fun v hv => ?_, fun v hv => ?_⟩
      · obtain rfl := Option.some.inj hv
        exact (hS.1 3 (by decide)).2.2.1
      · obtain rfl := Option.some.inj hv
        exact (hS.1 3 (by decide)).2.1
    · cases h
    · cases h
    · cases h
    · cases h
    · cases h
    · cases h
    · cases h
    · cases h
    · cases h
  · unfold qx_sta
    refine List.forall_mem_cons.mpr ⟨hZ0, List.forall_mem_cons.mpr ⟨hZ1, List.forall_mem_cons.mpr ⟨hZ2, List.forall_mem_cons.mpr ⟨?_, fun _ h => absurd h List.not_mem_nil⟩⟩⟩⟩
    cases vb
    · exact hZ3
    · exact hZ3
  · unfold qx_str
    exact List.forall_mem_cons.mpr ⟨vk_R.of (hts _ we_s0) (hK 0 (by decide)), List.forall_mem_cons.mpr ⟨vk_R.of (hts _ we_s1) (hK 1 (by decide)), List.forall_mem_cons.mpr ⟨vk_R.of (hts _ we_s2) (hK 2 (by decide)), List.forall_mem_cons.mpr ⟨vk_R.of (hts _ we_s3) (hK 3 (by decide)), fun _ h => absurd h List.not_mem_nil⟩⟩⟩⟩

theorem we_env {s : State} {b L : Nat} {xs : Nat → Int32} (hts : ∀ w ∈ lw_tbl, w.before #[Value.ref b] s = true) (hX : va_X b L xs s s.heap) (hbl : b < s.heap.size) (hgv : (Cond.and given_1 narrow_1).before #[Value.ref b] s = true) : ∃ (xa : Nat → Nat) (vb : Bool), xa 0 = b ∧ qs_X xa s.heap.size (qe L (fun k => (xs k).toInt) vb) s s.heap := by
  have hf := flat_of_before _ hgv
  have hA : ∀ a : Nat, a < s.heap.size → ¬ qs_A s.heap.size a := fun a h1 h2 => absurd h1 (Nat.not_lt.mpr h2)
  obtain ⟨adK, adV, hS, hK⟩ := vk_Sof (N := 4) (tm := we_tm) (len := we_len) (byt := we_byt) (A := qs_A s.heap.size) (fun i hi => by
    have hi4 : i = 0 ∨ i = 1 ∨ i = 2 ∨ i = 3 := by omega
    rcases hi4 with rfl | rfl | rfl | rfl <;> decide) (we_ex hf) (we_co hf) (we_ar hf) (we_le hf) (we_el hf) (we_ne hf) hA
  obtain ⟨t1, e1, hT1⟩ := va_Tof (tm := we_A) (ty := .int) (N := 7) (A := qs_A s.heap.size) (by decide) (hf _ (by decide +kernel)) (va_eqt (hf _ (by decide +kernel))) (we_elA hf) hA
  obtain ⟨t2, e2, hT2⟩ := va_Tof (tm := we_B) (ty := .int) (N := 28) (A := qs_A s.heap.size) (by decide) (hf _ (by decide +kernel)) (va_eqt (hf _ (by decide +kernel))) (we_elB hf) hA
  have hZ0 := va_Zof (A := qs_A s.heap.size) (hts _ we_l0) (hts _ we_n0) e1 hA
  have hZ1 := va_Zof (A := qs_A s.heap.size) (hts _ we_l1) (hts _ we_n1) e2 hA
  have hZ2 := va_Zof (A := qs_A s.heap.size) (hts _ we_l2) (hts _ we_n2) (va_eqi (z := 1) (hf _ (by decide +kernel))) hA
  rcases va_Zqof (A := qs_A s.heap.size) (hts _ we_l3) (hts _ we_n3) (hf _ (by decide +kernel)) hA with hZ3 | ⟨t3, hZ3⟩
  · exact ⟨_, true, rfl, we_X (vb := true) (t3 := 0) hts hX hbl hS hK hT1 hT2 hZ0 hZ1 hZ2 hZ3⟩
  · exact ⟨_, false, rfl, we_X (vb := false) (t3 := t3) hts hX hbl hS hK hT1 hT2 hZ0 hZ1 hZ2 hZ3⟩

