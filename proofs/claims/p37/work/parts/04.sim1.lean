/-! the small machine's cells as cells of the heap -/
def qs_TB : List Cond := lw_tbl.filter goodWord
theorem qs_in {w : Cond} (h : w ∈ lw_tbl) (g : goodWord w = true) : w ∈ qs_TB := List.mem_filter.mpr ⟨h, g⟩
abbrev qs_Ent : Type := Nat × MethodName × ByteArray × Nat × Option FieldType × Nat × Nat × qm_C
def qs_ws (x : qs_Ent) : List Cond := Cond.code x.2.1 x.2.2.1 x.2.2.2.1 x.2.2.2.2.1 :: qs_TB
def qs_rm (d : Nat) (x : qs_Ent) : Room := { frames := d, cells := x.2.2.2.2.2.1, slots := x.2.2.2.2.2.2.1, locals := 60 * d }
def qs_ad (xa : Nat → Nat) (base : Nat) (a : Nat) : Nat := if a < 16 then xa a else base + (a - 16)
def qs_tv (xa : Nat → Nat) (base : Nat) : Value → Value
  | .ref a => .ref (qs_ad xa base a)
  | .int x => .int x
  | .long x => .long x
  | .float x => .float x
  | .double x => .double x
  | .null => .null
  | .retAddr x => .retAddr x
def qs_ta (xa : Nat → Nat) (base : Nat) : ((Nat → Int32) ⊕ (Nat → Int64) ⊕ (Nat → UInt32) ⊕ (Nat → UInt64) ⊕ (Nat → Option Nat)) → ((Nat → Int32) ⊕ (Nat → Int64) ⊕ (Nat → UInt32) ⊕ (Nat → UInt64) ⊕ (Nat → Option Nat))
  | .inl f => .inl f
  | .inr (.inl f) => .inr (.inl f)
  | .inr (.inr (.inl f)) => .inr (.inr (.inl f))
  | .inr (.inr (.inr (.inl f))) => .inr (.inr (.inr (.inl f)))
  | .inr (.inr (.inr (.inr f))) => .inr (.inr (.inr (.inr (fun k => (f k).map (qs_ad xa base)))))
def qs_te (xa : Nat → Nat) (base : Nat) (cA : FieldType → ClassId) : qm_E → va_E
  | .inl x => .inl (cA x.1, x.2.1, qs_ta xa base x.2.2)
  | .inr x => .inr (x.1, x.2.map (qs_tv xa base))
def qs_tl (xa : Nat → Nat) (base : Nat) (ls : qm_L) : qm_L := ls.map (fun q => (q.1, qs_tv xa base q.2))
/-- the heap holds the small world from base on, and nothing behind it -/
def qs_R (xa : Nat → Nat) (base : Nat) (cA : FieldType → ClassId) (D : va_G) (w : qm_W) (H : Heap) : Prop := H.size = base + w.length ∧ ∀ (k : Nat) (e : qm_E), w[k]? = some e → va_at D qx_cl (base + k, qs_te xa base cA e) H
def qs_tys (cA : FieldType → ClassId) : List (ClassId × FieldType) := [(cA .int, .int), (cA .long, .long), (cA .boolean, .boolean), (cA (.object "OneRoof$Custom"), .object "OneRoof$Custom")]
abbrev qs_A (base : Nat) : Nat → Prop := fun q => base ≤ q
/-- what lies outside, as the small machine has it -/
def qs_X (xa : Nat → Nat) (base : Nat) (X : qm_X) (U : State) (H : Heap) : Prop :=
  (∀ (j n : Nat) (ty : FieldType) (f : Nat → Int32), j < 16 → X.1 j = some (.inl (ty, n, .inl f)) → va_T ty (xa j) n (fun k => .int (f k)) (qs_A base) U H) ∧
  (∀ (j ci : Nat) (fs : List Value), j < 16 → X.1 j = some (.inr (ci, fs)) → ci = 13 ∧ va_O "java/lang/String" (xa j) (qs_A base) U H ∧ (∀ v, fs[0]? = some v → va_OF "java/lang/String" "value" "[B" (qs_tv xa base v) (xa j) (qs_A base) U H) ∧ ∀ v, fs[1]? = some v → va_OF "java/lang/String" "coder" "B" (qs_tv xa base v) (xa j) (qs_A base) U H) ∧
  (∀ q ∈ qx_sta, va_Z q.1 q.2.1 q.2.2.1 (qs_tv xa base (q.2.2.2.getD X.2)) (qs_A base) U H) ∧
  (∀ q ∈ qx_str, vk_R q.1 q.2.1 q.2.2.1 (xa q.2.2.2) U) ∧
  (∀ w ∈ qx_nest, va_Nw w U) ∧ va_AO "OneRoof$Custom" U
def qs_B (xa : Nat → Nat) (base : Nat) (cA : FieldType → ClassId) (D : va_G) (X : qm_X) (w : qm_W) (U : State) : Prop := qs_R xa base cA D w U.heap ∧ va_K D qx_cl (qs_tys cA) U ∧ qs_X xa base X U U.heap
def qs_Q (xa : Nat → Nat) (base : Nat) (cA : FieldType → ClassId) (D : va_G) (Q : Option Value → qm_W → Prop) : Array Value → State → Outcome → State → Prop := fun _ st oc t => (∃ (r : Option Value) (w' : qm_W), oc = .returned (r.map (qs_tv xa base)) ∧ Q r w' ∧ qs_R xa base cA D w' t.heap) ∧ va_F (qs_A base) st t
section QS1
variable {xa : Nat → Nat} {base : Nat} {cA : FieldType → ClassId} {D : va_G} {X : qm_X}
theorem qs_tv_cat (v : Value) : (qs_tv xa base v).category = v.category := by cases v <;> rfl
theorem qs_sum_map (st : List Value) : ((st.map (qs_tv xa base)).map fun v => v.category).sum = qm_sum st := by
  unfold qm_sum
  rw [List.map_map]
  congr 1
  exact List.map_congr_left (fun v _ => qs_tv_cat v)
theorem qs_nar (ty : FieldType) (a b : Nat) : narrow ty (.ref a) = .ref a → narrow ty (.ref b) = .ref b := by
  cases ty <;> simp [narrow]
theorem qs_fitv {ty : FieldType} {v : Value} (h : qm_fitb ty v = true) : narrow ty (qs_tv xa base v) = qs_tv xa base v ∧ fits ty (qs_tv xa base v) = true := by
  unfold qm_fitb at h
  rw [Bool.and_eq_true, decide_eq_true_eq] at h
  obtain ⟨h1, h2⟩ := h
  cases v with
  | ref a =>
    refine ⟨qs_nar ty a _ h1, ?_⟩
    cases ty <;> simp [fits, qs_tv] at h2 ⊢
  | _ => exact ⟨h1, h2⟩
theorem qs_get {ls : Array Slot} {n : Nat} {l : qm_L} {i : Nat} {v : Value} (h : lv_has ls n (qs_tl xa base l)) (hg : qm_get l i = some v) : ls[i]? = some (.val (qs_tv xa base v)) := by
  unfold qm_get at hg
  cases hf : l.find? (fun q => q.1 == i) with
  | none => rw [hf] at hg; cases hg
  | some q =>
    rw [hf] at hg
    have h1 := List.find?_some hf
    have h2 := List.mem_of_find?_eq_some hf
    have h3 : q.1 = i := by simpa using h1
    cases hg
    have h4 := h.2.2 (q.1, qs_tv xa base q.2) (List.mem_map.mpr ⟨q, h2, rfl⟩)
    rw [← h3]
    exact h4
theorem qs_put1 (l : qm_L) (i : Nat) (v : Value) : (i, qs_tv xa base v) :: (qs_tl xa base l).filter (fun q => !(q.1 == i) && !(q.1 + 1 == i && q.2.category == 2)) = qs_tl xa base (qm_put1 l i v) := by
  unfold qm_put1 qs_tl
  rw [List.map_cons, List.filter_map]
  congr 2
  exact List.filter_congr (fun q _ => by simp [Function.comp, qs_tv_cat])
theorem qs_put2 (l : qm_L) (i : Nat) (v : Value) : (i, qs_tv xa base v) :: (qs_tl xa base l).filter (fun q => !(q.1 == i) && (!(q.1 == i + 1) && !(q.1 + 1 == i && q.2.category == 2))) = qs_tl xa base (qm_put2 l i v) := by
  unfold qm_put2 qs_tl
  rw [List.map_cons, List.filter_map]
  congr 2
  exact List.filter_congr (fun q _ => by simp [Function.comp, qs_tv_cat])
theorem qs_R_set {w : qm_W} {H H1 : Heap} {k : Nat} {e0 e : qm_E} (h : qs_R xa base cA D w H) (hk : w[k]? = some e0) (he : va_at D qx_cl (base + k, qs_te xa base cA e) H1) (z : H1.size = H.size) (o : ∀ q : Nat, q ≠ base + k → H1[q]? = H[q]?) : qs_R xa base cA D (w.set k e) H1 := by
  refine ⟨by rw [z, h.1, List.length_set], fun j e' hj => ?_⟩
  by_cases hjk : j = k
  · subst hjk
    rw [List.getElem?_set_self (List.getElem?_eq_some_iff.mp hk).1] at hj
    cases hj
    exact he
  · rw [List.getElem?_set_ne (Ne.symm hjk)] at hj
    exact (h.2 j e' hj).kept (o _ (by show base + j ≠ base + k; omega))
theorem qs_R_push {w : qm_W} {H H1 : Heap} {e : qm_E} (h : qs_R xa base cA D w H) (he : va_at D qx_cl (H.size, qs_te xa base cA e) H1) (z : H1.size = H.size + 1) (o : ∀ q : Nat, q < H.size → H1[q]? = H[q]?) : qs_R xa base cA D (w ++ [e]) H1 := by
  refine ⟨by rw [z, h.1, List.length_append]; simp; omega, fun j e' hj => ?_⟩
  by_cases hl : j < w.length
  · rw [List.getElem?_append_left hl] at hj
    exact (h.2 j e' hj).kept (o _ (by show base + j < H.size; rw [h.1]; omega))
  · rw [List.getElem?_append_right (by omega)] at hj
    have hz : j - w.length < 1 := (List.getElem?_eq_some_iff.mp hj).1
    have hj0 : j = w.length := by omega
    subst hj0
    rw [Nat.sub_self] at hj
    cases hj
    rw [← h.1]
    exact he
theorem qs_P1 {w : qm_W} {H : Heap} {k : Nat} {e : qm_E} (h : qs_R xa base cA D w H) (hk : w[k]? = some e) : va_P D qx_cl [(base + k, qs_te xa base cA e)] H := by
  intro j q hj
  have hz : j < 1 := (List.getElem?_eq_some_iff.mp hj).1
  have : j = 0 := by omega
  subst this
  cases hj
  exact h.2 k e hk
theorem qs_S_push {H0 H H1 : Heap} {locs : List Loc} (h : va_S (qs_A base) H0 H locs) (z : H1.size = H.size + 1) (o : ∀ q : Nat, q < H.size → H1[q]? = H[q]?) : va_S (qs_A base) H0 H1 locs :=
  ⟨Nat.le_trans h.1 (by omega), fun q h1 h2 => (o q (Nat.lt_of_lt_of_le h1 h.1)).trans (h.2.1 q h1 h2), h.2.2⟩
theorem qs_ad_hi {a : Nat} (h : 16 ≤ a) : qs_ad xa base a = base + (a - 16) := if_neg (by omega)
theorem qs_ad_lo {a : Nat} (h : a < 16) : qs_ad xa base a = xa a := if_pos h
theorem qs_cell_hi {w : qm_W} {a : Nat} (h : 16 ≤ a) : qm_cell X w a = w[a - 16]? := if_neg (by omega)
theorem qs_cell_lo {w : qm_W} {a : Nat} (h : a < 16) : qm_cell X w a = X.1 a := if_pos h
theorem qs_vin {i : Int32} {n : Nat} (h : qm_in i n = true) : vp_in i n := by
  unfold qm_in at h
  rw [Bool.and_eq_true, decide_eq_true_eq, decide_eq_true_eq] at h
  exact fun q => q.elim h.1 (fun q => by omega)
theorem qs_X_moved {u U : State} {H : Heap} (hW : u.WarmedH U.vm) (h : qs_X xa base X u H) : qs_X xa base X U H := by
  obtain ⟨h1, h2, h3, h4, h5, h6⟩ := h
  refine ⟨fun j n ty f hj e => va_T.moved hW.alike (h1 j n ty f hj e), fun j ci fs hj e => ?_, fun q hq => va_Z.moved hW.alike (h3 q hq), fun q hq => (h4 q hq).warm hW, fun w hw => ?_, va_AO.moved hW.alike h6⟩
  · obtain ⟨a1, a2, a3, a4⟩ := h2 j ci fs hj e
    exact ⟨a1, a2.moved hW.alike, fun v hv => (a3 v hv).moved hW.alike, fun v hv => (a4 v hv).moved hW.alike⟩
  · exact qx_nest_warm hW w hw (h5 w hw)
theorem qs_X_same {u U : State} {H : Heap} (hv : u.vm = U.vm) (h : qs_X xa base X u H) : qs_X xa base X U H := by
  have hal : u.vm.Alike U.vm := by rw [hv]; exact Vm.Alike.refl _
  obtain ⟨h1, h2, h3, h4, h5, h6⟩ := h
  refine ⟨fun j n ty f hj e => va_T.moved hal (h1 j n ty f hj e), fun j ci fs hj e => ?_, fun q hq => va_Z.moved hal (h3 q hq), fun q hq => vk_R.same hv.symm (h4 q hq), fun w hw => qx_nest_same hv w hw (h5 w hw), va_AO.moved hal h6⟩
  obtain ⟨a1, a2, a3, a4⟩ := h2 j ci fs hj e
  exact ⟨a1, a2.moved hal, fun v hv => (a3 v hv).moved hal, fun v hv => (a4 v hv).moved hal⟩
theorem qs_X_kept {U : State} {H H1 : Heap} (hq : ∀ a : Nat, a < H.size → ¬ qs_A base a → H1[a]? = H[a]?) (h : qs_X xa base X U H) : qs_X xa base X U H1 := by
  obtain ⟨h1, h2, h3, h4, h5, h6⟩ := h
  refine ⟨fun j n ty f hj e => va_T.kept (h1 j n ty f hj e) hq, fun j ci fs hj e => ?_, fun q hh => va_Z.kept (h3 q hh) hq, h4, h5, h6⟩
  obtain ⟨a1, a2, a3, a4⟩ := h2 j ci fs hj e
  exact ⟨a1, a2.kept hq, fun v hv => (a3 v hv).kept hq, fun v hv => (a4 v hv).kept hq⟩
theorem qs_blind {w : qm_W} {av : List Value} : FrameBlind (va_Pc av (qs_B xa base cA D X w)) := by
  intro a U g mk h
  obtain ⟨h1, h2, h3, h4⟩ := h
  exact ⟨h1, h2, va_K.moved (u := U) (U := U.calling g mk a) (Vm.Alike.refl U.vm) h3, qs_X_same (u := U) (U := U.calling g mk a) rfl h4⟩
end QS1
