section QS6
variable {xa : Nat → Nat} {base : Nat} {cA : FieldType → ClassId} {D : va_G} {X : qm_X}
variable {p : Program} {l : Launch} {e : Env} {R : Room} {s : State} {m : MethodId} {args : Array Value} {below : List Frame} {meth : Method} {c : Code} {Z : State → Prop} {cc : ByteArray} {nL o : Nat}
/-- a method's end is one of the machine -/
def qs_ends (xa : Nat → Nat) (base : Nat) (cA : FieldType → ClassId) (D : va_G) (p : Program) (l : Launch) (e : Env) (R : Room) (s : State) (m : MethodId) (args : Array Value) (below : List Frame) (meth : Method) (c : Code) (Z : State → Prop) (cc : ByteArray) (ret : Option FieldType) (Q : Option Value → qm_W → Prop) : Prop :=
  (∀ (x : Int32) (ty : FieldType) (w : qm_W) (cn n pc : Nat) (H : Heap) (locs : List Loc) (lsA : Array Slot), decode cc pc = .ok (.ireturn, 1) → ret = some ty → narrow ty (.int x) = .int x → cn ≤ R.cells → n ≤ R.slots → Q (some (.int x)) w → qs_R xa base cA D w H → va_S (qs_A base) s.heap H locs → W p l e R s m args below meth c H locs cn n Z (F0 m pc lsA [.int x])) ∧
  (∀ (x : Int64) (w : qm_W) (cn n pc : Nat) (H : Heap) (locs : List Loc) (lsA : Array Slot), decode cc pc = .ok (.lreturn, 1) → ret = some .long → cn ≤ R.cells → n ≤ R.slots → Q (some (.long x)) w → qs_R xa base cA D w H → va_S (qs_A base) s.heap H locs → W p l e R s m args below meth c H locs cn n Z (F0 m pc lsA [.long x])) ∧
  (∀ (w : qm_W) (cn n pc : Nat) (H : Heap) (locs : List Loc) (lsA : Array Slot), decode cc pc = .ok (.return_, 1) → ret = none → cn ≤ R.cells → n ≤ R.slots → Q none w → qs_R xa base cA D w H → va_S (qs_A base) s.heap H locs → W p l e R s m args below meth c H locs cn n Z (F0 m pc lsA []))
/-- a body: what the small machine comes to, the machine comes to -/
theorem qs_body (hall : qs_all) (hXo : qs_Xok X) (hx : p.tables.exec = Jvm.exec) (hb : c.code = cc) (hml : c.maxLocals = nL) (hown : s.vm.findClass (qx_on o) = some m.cls) (hts : ∀ w ∈ qs_TB, w.before args s = true) (hK : va_K D qx_cl (qs_tys cA) s) (hX : qs_X xa base X s s.heap) {d : Nat} (hR1 : d + 1 ≤ R.frames) (hR2 : 60 * (d + 1) ≤ R.locals)
    {C : Nat → List Value → qm_W → (Option Value → qm_W → Prop) → Prop} (hC : ∀ (k : Nat) (x : qs_Ent) (as : List Value) (w : qm_W) (Q : Option Value → qm_W → Prop), 0 < k → qm_ent k = some x → C k as w Q → Met l x.2.1 (qs_ws x) (qs_rm d x) (va_Pc (as.map (qs_tv xa base)) (qs_B xa base cA D X w)) (qs_Q xa base cA D Q) x.2.2.2.2.2.1 x.2.2.2.2.2.2.1 (qs_A base))
    {M : qm_M} (hM1 : M.1 = nL) (hinit : M.2.2.1 = true → meth.name = "<init>") (hMo : M.2.2.2.1 = qx_oc o) (hM5 : M.2.2.2.2.1 = R.cells) (hM6 : M.2.2.2.2.2 = R.slots) {cd : qm_C} (hcd : ∀ q ∈ cd, decode cc q.1 = .ok (q.2.1, q.2.2.1) ∧ 0 ≤ (q.1 : Int) + qs_off q.2.1 ∧ qs_ok o q) {Q : Option Value → qm_W → Prop}
    (hend : qs_ends xa base cA D p l e R s m args below meth c Z cc M.2.1 Q) {t : qm_S} (h : qm_wp C qm_bud X M cd Q t) : qs_P xa base cA D p l e R s m args below meth c Z nL t := by
  refine h _ (fun t ht => ?_)
  obtain ⟨pc, ls, st, w, cn, n⟩ := t
  unfold qm_step at ht
  split at ht
  · exact ht.elim
  · rename_i q hq
    have hq : qm_fetch cd pc = some q := hq
    rw [qm_fetch_eq] at hq
    have h1 := List.find?_some hq
    have h2 := List.mem_of_find?_eq_some hq
    have h3 : q.1 = pc := by simpa using h1
    obtain ⟨pc', i, len, r1, r2, r3, rv⟩ := q
    have h3 : pc' = pc := h3
    subst h3
    obtain ⟨hdec, hoff, hok⟩ := hcd _ h2
    split at ht
    · rename_i k hk
      exact qs_do hall hx hb hml hown hts hK hX hR1 hR2 hC hM5 hM6 hdec hok hk ht.1 ht.2.1 ht.2.2
    · split at ht
      · rename_i r hr
        obtain ⟨ht1, ht2, ht3⟩ := ht
        have h5 : cn ≤ R.cells := by rw [← hM5]; exact ht1
        have h6 : n ≤ R.slots := by rw [← hM6]; exact ht2
        cases i with
        | ireturn =>
          simp only [qm_retn] at hr
          split at hr
          · split at hr
            · split at hr
              · rename_i hh
                obtain ⟨rfl, hn⟩ := hh
                cases hr
                intro H locs lsA hl hR hS
                exact hend.1 _ _ w cn n pc' H locs lsA hdec (by assumption) hn h5 h6 ht3 hR hS
              · cases hr
            · cases hr
          · cases hr
        | lreturn =>
          simp only [qm_retn] at hr
          split at hr
          · split at hr
            · rename_i hh
              obtain ⟨rfl, hn⟩ := hh
              cases hr
              intro H locs lsA hl hR hS
              exact hend.2.1 _ w cn n pc' H locs lsA hdec hn h5 h6 ht3 hR hS
            · cases hr
          · cases hr
        | return_ =>
          simp only [qm_retn] at hr
          split at hr
          · split at hr
            · rename_i hh
              obtain ⟨rfl, hn⟩ := hh
              cases hr
              intro H locs lsA hl hR hS
              exact hend.2.2 w cn n pc' H locs lsA hdec hn h5 h6 ht3 hR hS
            · cases hr
          · cases hr
        | _ => cases hr
      · split at ht
        · exact ht.elim
        · rename_i s' hs
          exact qs_go hall hx hb hml hown hts hK hX hM1 hinit hMo hM5 hM6 (by omega) (by omega) hdec hok ⟨_, (Int.toNat_of_nonneg (show 0 ≤ (pc' : Int) + qs_off i from hoff)).symm⟩ (qs_alen hx hb hK hX hXo) hs ht
theorem qs_args (as : List Value) : ∀ i : Nat, lv_args i (as.map (qs_tv xa base)) = qs_tl xa base (lv_args i as) := by
  induction as with
  | nil => intro i; rfl
  | cons v vs ih =>
    intro i
    show (i, qs_tv xa base v) :: lv_args (if (qs_tv xa base v).category = 2 then i + 2 else i + 1) (vs.map (qs_tv xa base)) = _
    rw [qs_tv_cat, ih]
    rfl
theorem qs_sl (as : List Value) : (lg_sl (as.map (qs_tv xa base))).length = (lg_sl as).length := by
  unfold lg_sl
  induction as with
  | nil => rfl
  | cons v vs ih =>
    rw [List.map_cons, List.flatMap_cons, List.flatMap_cons, List.length_append, List.length_append, ih, qs_tv_cat]
    split <;> rfl
theorem qs_ofW {y : MethodName} {ws ws' : List Cond} {rm : Room} {Pc : Array Value → State → Prop} {Qc : Array Value → State → Outcome → State → Prop} {mc ms : Nat} {free : Addr → Prop} {cc : ByteArray} {maxL : Nat} {ret : Option FieldType}
    (hy : plainFor y = true) (hw : ws = Cond.code y cc maxL ret :: ws')
    (body : ∀ p e s m args below meth c s₁, BodyLoose p l y (headSpec ws rm) cc maxL ret e s m args below meth c s₁ → c.maxLocals = maxL → Pc args s →
      W p l e (headSpec ws rm).room s m args below meth c s.heap [] 0 0 (MQ below Qc args s mc ms free) (entryFrame m args maxL)) : Met l y ws rm Pc Qc mc ms free := by
  refine MetFree.of_bodySF (code := cc) (maxLocals := maxL) (ret := ret) hy ?_ ?_
  · intro args s m h hn
    obtain ⟨meth, c, h1, h2, h3, h4, h5, h6, -, -⟩ := Cond.code_spec hn (atoms_spec (ws := ws) h _ (by rw [hw]; exact List.mem_cons_self))
    exact ⟨meth, c, h1, h2, h3, h4, h5, h6⟩
  · intro p e s m args below meth c s₁ B hml hP _
    have hh0 : s₁.heap = s.heap := by rw [B.state]; rfl
    obtain ⟨t, a1, o, b1, b2, b3⟩ := body p e s m args below meth c s₁ B hml hP s₁ hh0 (Stand.of_body B)
    exact ⟨t, o, a1, b1, b2, ⟨b3.1, b3.2⟩⟩
/-- FROM THE SMALL MACHINE TO CONTRACTS -/
theorem qs_met (hall : qs_all) (hXo : qs_Xok X) : ∀ (d k : Nat) (x : qs_Ent) (as : List Value) (w : qm_W) (Q : Option Value → qm_W → Prop), 0 < k → qm_ent k = some x → qm_T X d k as w Q → Met l x.2.1 (qs_ws x) (qs_rm d x) (va_Pc (as.map (qs_tv xa base)) (qs_B xa base cA D X w)) (qs_Q xa base cA D Q) x.2.2.2.2.2.1 x.2.2.2.2.2.2.1 (qs_A base) := by
  intro d
  induction d with
  | zero => intro k x as w Q hk he h; exact h.elim
  | succ d ih =>
    intro k x as w Q hk he h
    unfold qm_T at h
    rw [he] at h
    obtain ⟨hlen, h⟩ := h
    obtain ⟨hpl, hcode, hcls, hmx, hcd⟩ := hall.2.2 k x hk he
    refine qs_ofW (cc := x.2.2.1) (maxL := x.2.2.2.1) (ret := x.2.2.2.2.1) hpl rfl ?_
    intro p e s m args below meth c s₁ B hml hv
    obtain ⟨rfl, hR0, hK, hX⟩ := hv
    have hx := B.exec
    have hb := B.bytes
    have hr := B.returns
    have hts0 := atoms_spec (ws := qs_ws x) B.pre
    have hts : ∀ w ∈ qs_TB, w.before _ s = true := fun w hw => hts0 w (List.mem_cons_of_mem _ hw)
    have hown : s.vm.findClass (qx_on x.1) = some m.cls := by rw [← hcls]; exact findClass_of_methodNamed B.named
    have hlocks := B.notSynchronized
    have hnm : meth.name = x.2.1.name := (name_of_methodNamed B.named B.method).1
    have hl := lv_entry (as.map (qs_tv xa base)) (n := x.2.2.2.1) (by rw [qs_sl]; exact hlen)
    rw [lg_entry_eq]
    rw [qs_args] at hl
    generalize (lg_sl (as.map (qs_tv xa base)) ++ List.replicate (x.2.2.2.1 - (lg_sl (as.map (qs_tv xa base))).length) Slot.unset).toArray = ls at hl ⊢
    have hend : qs_ends xa base cA D p l e (qs_rm (d + 1) x) s m (as.map (qs_tv xa base)).toArray below meth c (MQ below (qs_Q xa base cA D Q) (as.map (qs_tv xa base)).toArray s x.2.2.2.2.2.1 x.2.2.2.2.2.2.1 (qs_A base)) x.2.2.1 x.2.2.2.2.1 Q := by
      refine ⟨fun v ty w cn n pc H locs lsA hd hty hn h1 h2 hQ hR hS => ?_, fun v w cn n pc H locs lsA hd hty h1 h2 hQ hR hS => ?_, fun w cn n pc H locs lsA hd hty h1 h2 hQ hR hS => ?_⟩
      · refine W.widen (k := x.2.2.2.2.2.1) (n := x.2.2.2.2.2.2.1) h1 h2 ?_
        exact W.zret hx hb (hr.trans hty) hn (fun t ht hW => ⟨⟨_, w, rfl, hQ, by rw [ht]; exact hR⟩, hS.F ht⟩) hS.2.2 hd
      · refine W.widen (k := x.2.2.2.2.2.1) (n := x.2.2.2.2.2.2.1) h1 h2 ?_
        exact W.lret hx hb (hr.trans hty) (fun t ht hW => ⟨⟨_, w, rfl, hQ, by rw [ht]; exact hR⟩, hS.F ht⟩) hS.2.2 hd
      · refine W.widen (k := x.2.2.2.2.2.1) (n := x.2.2.2.2.2.2.1) h1 h2 ?_
        exact W.vret hx hb (hr.trans hty) (fun t ht hW => ⟨⟨_, w, rfl, hQ, by rw [ht]; exact hR⟩, hS.F ht⟩) hS.2.2 hd
    exact qs_body (o := x.1) (d := d) hall hXo hx hb hml hown hts hK hX (Nat.le_refl _) (Nat.le_refl _) (fun k x as w Q hk he hC => ih k x as w Q hk he hC) rfl (fun h => by
      have h : decide (x.2.1.name = "<init>") = true := h
      rw [hnm]
      exact of_decide_eq_true h) rfl rfl rfl hcd hend h s.heap [] ls hl hR0 va_S.rf
end QS6
