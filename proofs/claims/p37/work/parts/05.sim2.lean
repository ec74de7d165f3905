/-! one instruction of the small machine is one of the machine -/
def qs_link (o i : Nat) (y : MethodName) (nest : Bool) : Prop := if nest then ∃ host, Cond.methodLinkNest (qx_on o) i y host ∈ qx_nest else Cond.methodLink (qx_on o) i y ∈ lw_tbl
def qs_nargs (y : MethodName) (n : Nat) : Prop := y.cls ≠ "java/lang/invoke/MethodHandle" ∧ y.cls ≠ "java/lang/invoke/VarHandle" ∧ (parseMethodDescriptor y.desc).map (fun d => d.parameters.length) = some n
def qs_off : Instr → Int
  | .ifCond _ off => off
  | .if_icmp _ off => off
  | _ => 0
/-- what the tables say of an entry's number -/
def qs_ok (o : Nat) (q : qm_I) : Prop := match q.2.1 with
  | .getfield i => q.2.2.2.2.2.1 = 9 ∨ (q.2.2.2.2.2.1 = 0 ∧ q.2.2.2.1 = 13 ∧ ((q.2.2.2.2.1 = 0 ∧ Cond.fieldLink (qx_on o) i "java/lang/String" "value" "[B" ∈ lw_tbl) ∨ (q.2.2.2.2.1 = 1 ∧ Cond.fieldLink (qx_on o) i "java/lang/String" "coder" "B" ∈ lw_tbl))) ∨
      (q.2.2.2.1 < 13 ∧ ∃ C N, qx_cl[q.2.2.2.1]? = some (C, qx_T q.2.2.2.1, N) ∧ q.2.2.2.2.1 < N ∧ ((q.2.2.2.2.2.1 = 0 ∧ Cond.fieldLink (qx_on o) i (qx_T q.2.2.2.1 q.2.2.2.2.1).1 (qx_T q.2.2.2.1 q.2.2.2.2.1).2.1 (qx_T q.2.2.2.1 q.2.2.2.2.1).2.2.1 ∈ lw_tbl) ∨ ∃ host, Cond.fieldLinkNest (qx_on o) i (qx_T q.2.2.2.1 q.2.2.2.2.1).1 (qx_T q.2.2.2.1 q.2.2.2.2.1).2.1 (qx_T q.2.2.2.1 q.2.2.2.2.1).2.2.1 host ∈ qx_nest))
  | .putfield i => ¬ q.2.2.2.2.2.1 = 0 ∨ ((qx_oc o = q.2.2.2.1 → (qx_T q.2.2.2.1 q.2.2.2.2.1).1 = qx_on o) ∧ ∃ C N, qx_cl[q.2.2.2.1]? = some (C, qx_T q.2.2.2.1, N) ∧ q.2.2.2.2.1 < N ∧ Cond.fieldLink (qx_on o) i (qx_T q.2.2.2.1 q.2.2.2.2.1).1 (qx_T q.2.2.2.1 q.2.2.2.2.1).2.1 (qx_T q.2.2.2.1 q.2.2.2.2.1).2.2.1 ∈ lw_tbl)
  | .getstatic i => (q.2.2.2.2.2.1 = 0 → ∃ C n d, (C, n, d, some q.2.2.2.2.2.2) ∈ qx_sta ∧ Cond.fieldLink (qx_on o) i C n d ∈ lw_tbl) ∧ (q.2.2.2.2.2.1 = 1 → ∃ C n d, (C, n, d, none) ∈ qx_sta ∧ Cond.fieldLink (qx_on o) i C n d ∈ lw_tbl)
  | .ldc i => (q.2.2.2.2.2.1 = 0 → ∃ v, q.2.2.2.2.2.2 = .int v ∧ Cond.constant (qx_on o) i v ∈ lw_tbl) ∧ (q.2.2.2.2.2.1 = 1 → ∃ tx j, q.2.2.2.2.2.2 = .ref j ∧ j < 16 ∧ (qx_on o, i, tx, j) ∈ qx_str)
  | .ldc_w i => q.2.2.2.2.2.1 = 0 → ∃ v, q.2.2.2.2.2.2 = .int v ∧ Cond.constant (qx_on o) i v ∈ lw_tbl
  | .ldc2_w i => q.2.2.2.2.2.1 = 2 → ∃ v, q.2.2.2.2.2.2 = .long v ∧ Cond.constantLong (qx_on o) i v ∈ lw_tbl
  | .new i => q.2.2.2.2.2.1 = 0 → ∃ C N, qx_cl[q.2.2.2.1]? = some (C, qx_T q.2.2.2.1, N) ∧ Cond.classLink (qx_on o) i C ∈ lw_tbl ∧ Cond.instantiable C N ∈ lw_tbl ∧ Cond.initialized C ∈ lw_tbl
  | .anewarray i => q.2.2.2.2.2.1 = 0 → q.2.2.2.1 = 7 → Cond.classLink (qx_on o) i "OneRoof$Custom" ∈ lw_tbl
  | .invokevirtual i => (q.2.2.2.2.2.1 = 0 ∨ q.2.2.2.2.2.1 = 1) → 0 < q.2.2.2.1 ∧ ∃ x, qm_ent q.2.2.2.1 = some x ∧ qs_nargs x.2.1 q.2.2.2.2.1 ∧ qs_link o i x.2.1 (decide (q.2.2.2.2.2.1 = 1)) ∧ Cond.instanceMethod x.2.1 ∈ lw_tbl ∧ Cond.selects x.2.1.cls x.2.1 x.2.1 ∈ lw_tbl ∧ Cond.initialized x.2.1.cls ∈ lw_tbl ∧ ((q.2.2.2.2.2.2 = .ref 13 ∧ x.2.1.cls = "java/lang/String") ∨ ∃ ci N, q.2.2.2.2.2.2 = .ref ci ∧ ci < 13 ∧ qx_cl[ci]? = some (x.2.1.cls, qx_T ci, N))
  | .invokestatic i => ((q.2.2.2.2.2.1 = 2 ∨ q.2.2.2.2.2.1 = 3) → 0 < q.2.2.2.1 ∧ ∃ x, qm_ent q.2.2.2.1 = some x ∧ qs_nargs x.2.1 q.2.2.2.2.1 ∧ qs_link o i x.2.1 (decide (q.2.2.2.2.2.1 = 3)) ∧ Cond.static x.2.1 ∈ lw_tbl ∧ Cond.initialized x.2.1.cls ∈ lw_tbl) ∧ (q.2.2.2.2.2.1 = 7 → Cond.methodLink (qx_on o) i arraycopyName ∈ lw_tbl)
  | .invokespecial i => (q.2.2.2.2.2.1 = 6 → Cond.methodLink (qx_on o) i objectInit ∈ lw_tbl) ∧ ((q.2.2.2.2.2.1 = 4 ∨ q.2.2.2.2.2.1 = 5) → 0 < q.2.2.2.1 ∧ ∃ x, qm_ent q.2.2.2.1 = some x ∧ qs_nargs x.2.1 q.2.2.2.2.1 ∧ qs_link o i x.2.1 (decide (q.2.2.2.2.2.1 = 5)) ∧ Cond.instanceMethod x.2.1 ∈ lw_tbl ∧ Cond.initialized x.2.1.cls ∈ lw_tbl ∧ x.2.1.name = "<init>" ∧ x.2.2.2.2.1 = none)
  | _ => True
/-- what the tables say of all methods and classes -/
def qs_all : Prop :=
  (∀ (ci : Nat) (r : vw_C), qx_cl[ci]? = some r → r.2.1 = qx_T ci ∧ (∀ w ∈ u_ws r.1 r.2.1 r.2.2, w ∈ lw_tbl) ∧ (∀ k, k < r.2.2 → parseFieldDescriptor (r.2.1 k).2.2.1 = some (qx_ty ci k)) ∧ (∀ a, a < r.2.2 → ∀ b, b < r.2.2 → a ≠ b → (r.2.1 a).2.1 ≠ (r.2.1 b).2.1)) ∧
  (Cond.arrayClass .int ∈ lw_tbl ∧ Cond.arrayClass .long ∈ lw_tbl ∧ Cond.arrayClass .boolean ∈ lw_tbl ∧ Cond.native arraycopyName ∈ lw_tbl ∧ Cond.static arraycopyName ∈ lw_tbl ∧ Cond.initialized "java/lang/System" ∈ lw_tbl ∧ Cond.instanceMethod objectInit ∈ lw_tbl ∧ Cond.code objectInit ⟨#[0xb1]⟩ 1 none ∈ lw_tbl) ∧
  (∀ (k : Nat) (x : qs_Ent), 0 < k → qm_ent k = some x → plainFor x.2.1 = true ∧ Cond.code x.2.1 x.2.2.1 x.2.2.2.1 x.2.2.2.2.1 ∈ lw_tbl ∧ x.2.1.cls = qx_on x.1 ∧ x.2.2.2.1 ≤ 30 ∧ ∀ q ∈ x.2.2.2.2.2.2.2, decode x.2.2.1 q.1 = .ok (q.2.1, q.2.2.1) ∧ 0 ≤ (q.1 : Int) + qs_off q.2.1 ∧ qs_ok x.1 q)
theorem qs_u_in {C : String} {T : u_T} {N : Nat} (h : ∀ w ∈ u_ws C T N, w ∈ lw_tbl) : ∀ w ∈ u_ws C T N, w ∈ qs_TB := by
  intro w hw
  refine qs_in (h w hw) ?_
  obtain ⟨k, -, rfl⟩ := List.mem_map.mp hw
  unfold u_lay
  split <;> rfl
section QS2
variable {xa : Nat → Nat} {base : Nat} {cA : FieldType → ClassId} {D : va_G} {X : qm_X}
variable {p : Program} {l : Launch} {e : Env} {R : Room} {s : State} {m : MethodId} {args : Array Value} {below : List Frame} {meth : Method} {c : Code} {Z : State → Prop} {cc : ByteArray} {nL o : Nat}
/-- the machine stands at a state of the small one -/
def qs_P (xa : Nat → Nat) (base : Nat) (cA : FieldType → ClassId) (D : va_G) (p : Program) (l : Launch) (e : Env) (R : Room) (s : State) (m : MethodId) (args : Array Value) (below : List Frame) (meth : Method) (c : Code) (Z : State → Prop) (nL : Nat) (t : qm_S) : Prop :=
  ∀ (H : Heap) (locs : List Loc) (ls : Array Slot), lv_has ls nL (qs_tl xa base t.2.1) → qs_R xa base cA D t.2.2.2.1 H → va_S (qs_A base) s.heap H locs → W p l e R s m args below meth c H locs t.2.2.2.2.1 t.2.2.2.2.2 Z (F0 m t.1 ls (t.2.2.1.map (qs_tv xa base)))
theorem qs_jump {pc : Nat} {off : Int} {ls : qm_L} {st : List Value} {w : qm_W} {cn n : Nat} {f : qm_S} (h : qm_jump pc off ls st w cn n = some f) : ∃ t : Nat, (pc : Int) + off = (t : Int) ∧ f = (t, ls, st, w, cn, n) := by
  unfold qm_jump qm_to qm_go at h
  split at h
  · rename_i h0
    exact ⟨((pc : Int) + off).toNat, by omega, (Option.some.inj h).symm⟩
  · cases h
theorem qs_icmp {lst : Array Slot} (hx : p.tables.exec = Jvm.exec) (hb : c.code = cc) {k : ClassFile.Cond} {x y : Int32} {off : Int} {pc tgt : Nat} {rest : List Value} {H : Heap} {locs : List Loc} {cn n : Nat} (hdg : decode cc pc = .ok (.if_icmp k off, 3)) (ht : (pc : Int) + off = (tgt : Int))
    (kt : qm_cond k x y = true → W p l e R s m args below meth c H locs cn n Z (F0 m tgt lst rest)) (kf : qm_cond k x y = false → W p l e R s m args below meth c H locs cn n Z (F0 m (pc + 3) lst rest)) : W p l e R s m args below meth c H locs cn n Z (F0 m pc lst (.int y :: .int x :: rest)) := by
  cases k with
  | eq => exact lv_icmp_eq hx hb hdg ht (fun h => kt (decide_eq_true h)) (fun h => kf (decide_eq_false h))
  | ne => exact lv_icmp_ne hx hb hdg ht (fun h => kt (decide_eq_true h)) (fun h => kf (decide_eq_false (fun g => g h)))
  | lt => exact lv_icmp_lt hx hb hdg ht (fun h => kt (decide_eq_true h)) (fun h => kf (decide_eq_false h))
  | ge => exact lv_icmp_ge hx hb hdg ht (fun h => kt (decide_eq_true h)) (fun h => kf (decide_eq_false h))
  | gt => exact lv_icmp_gt hx hb hdg ht (fun h => kt (decide_eq_true h)) (fun h => kf (decide_eq_false h))
  | le => exact lv_icmp_le hx hb hdg ht (fun h => kt (decide_eq_true h)) (fun h => kf (decide_eq_false h))
theorem qs_icond {lst : Array Slot} (hx : p.tables.exec = Jvm.exec) (hb : c.code = cc) {k : ClassFile.Cond} {x : Int32} {off : Int} {pc tgt : Nat} {rest : List Value} {H : Heap} {locs : List Loc} {cn n : Nat} (hdg : decode cc pc = .ok (.ifCond k off, 3)) (ht : (pc : Int) + off = (tgt : Int))
    (kt : qm_cond k x 0 = true → W p l e R s m args below meth c H locs cn n Z (F0 m tgt lst rest)) (kf : qm_cond k x 0 = false → W p l e R s m args below meth c H locs cn n Z (F0 m (pc + 3) lst rest)) : W p l e R s m args below meth c H locs cn n Z (F0 m pc lst (.int x :: rest)) := by
  cases k with
  | eq => exact lv_if_eq hx hb hdg ht (fun h => kt (decide_eq_true h)) (fun h => kf (decide_eq_false h))
  | ne => exact lv_if_ne hx hb hdg ht (fun h => kt (decide_eq_true h)) (fun h => kf (decide_eq_false (fun g => g h)))
  | lt => exact lv_if_lt hx hb hdg ht (fun h => kt (decide_eq_true h)) (fun h => kf (decide_eq_false h))
  | ge => exact lv_if_ge hx hb hdg ht (fun h => kt (decide_eq_true h)) (fun h => kf (decide_eq_false h))
  | gt => exact lv_if_gt hx hb hdg ht (fun h => kt (decide_eq_true h)) (fun h => kf (decide_eq_false h))
  | le => exact lv_if_le hx hb hdg ht (fun h => kt (decide_eq_true h)) (fun h => kf (decide_eq_false h))
end QS2
