/-! calls and returns; from the small machine's judgement to contracts -/
/-- cells outside are rows of numbers, or texts -/
def qs_Xok (X : qm_X) : Prop := ∀ (a : Nat) (ty : FieldType) (mm : Nat) (f : (Nat → Int32) ⊕ (Nat → Int64) ⊕ (Nat → UInt32) ⊕ (Nat → UInt64) ⊕ (Nat → Option Nat)), X.1 a = some (.inl (ty, mm, f)) → ∃ g, f = .inl g
section QS5
variable {xa : Nat → Nat} {base : Nat} {cA : FieldType → ClassId} {D : va_G} {X : qm_X}
variable {p : Program} {l : Launch} {e : Env} {R : Room} {s : State} {m : MethodId} {args : Array Value} {below : List Frame} {meth : Method} {c : Code} {Z : State → Prop} {cc : ByteArray} {nL o : Nat}
theorem qs_alen (hx : p.tables.exec = Jvm.exec) (hb : c.code = cc) (hK : va_K D qx_cl (qs_tys cA) s) (hX : qs_X xa base X s s.heap) (hXo : qs_Xok X) {w : qm_W} {pc cn n : Nat} (ty : FieldType) (mm : Nat) (f : (Nat → Int32) ⊕ (Nat → Int64) ⊕ (Nat → UInt32) ⊕ (Nat → UInt64) ⊕ (Nat → Option Nat)) (a : Nat) (r : List Value) (hcell : qm_cell X w a = some (.inl (ty, mm, f))) (hty : a < 16 ∨ ty = .int ∨ ty = .long ∨ ty = .boolean ∨ ty = .object "OneRoof$Custom") (hdec : decode cc pc = .ok (.arraylength, 1)) (H : Heap) (locs : List Loc) (lsA : Array Slot) (hR : qs_R xa base cA D w H) (hS : va_S (qs_A base) s.heap H locs) (k : W p l e R s m args below meth c H locs cn n Z (F0 m (pc + 1) lsA (.int (Int32.ofNat mm) :: r.map (qs_tv xa base)))) : W p l e R s m args below meth c H locs cn n Z (F0 m pc lsA (qs_tv xa base (.ref a) :: r.map (qs_tv xa base))) := by
  by_cases ha : a < 16
  · rw [qs_cell_lo ha] at hcell
    obtain ⟨g, rfl⟩ := hXo a _ _ _ hcell
    have e1 : qs_tv xa base (.ref a) = .ref (xa a) := by show Value.ref (qs_ad xa base a) = _; rw [qs_ad_lo ha]
    rw [e1]
    exact va_tlen hx hb (hX.1 a mm ty g ha hcell) hS rfl hdec k
  · rw [qs_cell_hi (Nat.le_of_not_lt ha)] at hcell
    have e1 : qs_tv xa base (.ref a) = .ref (base + (a - 16)) := by show Value.ref (qs_ad xa base a) = _; rw [qs_ad_hi (Nat.le_of_not_lt ha)]
    rw [e1]
    rcases hty with h | rfl | rfl | rfl | rfl
    · exact absurd h ha
    · exact va_alen hx hb hK (qs_P1 hR hcell) 0 0 rfl rfl rfl hdec k
    · exact va_alen hx hb hK (qs_P1 hR hcell) 0 1 rfl rfl rfl hdec k
    · exact va_alen hx hb hK (qs_P1 hR hcell) 0 2 rfl rfl rfl hdec k
    · exact va_alen hx hb hK (qs_P1 hR hcell) 0 3 rfl rfl rfl hdec k
/-- behind a call -/
theorem qs_call {H : Heap} {locs : List Loc} {cells slots mc ms pc : Nat} {ls : Array Slot} {st0 rest : List Value} {a : Array Value} {Q : Option Value → qm_W → Prop} (hr : va_Run p l e R s m args below meth c H locs cells slots mc ms (F0 m pc ls st0) rest (qs_Q xa base cA D Q a) (qs_A base)) (hS : va_S (qs_A base) s.heap H locs)
    (kk : ∀ (r : Option Value) (w' : qm_W) (H1 : Heap) (locs1 : List Loc), Q r w' → qs_R xa base cA D w' H1 → va_S (qs_A base) s.heap H1 locs1 → W p l e R s m args below meth c H1 locs1 (cells + mc) (slots + ms) Z (F0 m (pc + 3) ls ((r.map (qs_tv xa base)).toList ++ rest))) : W p l e R s m args below meth c H locs cells slots Z (F0 m pc ls st0) := by
  intro T hT X
  obtain ⟨v, st₀, t, T', L, h0, X', hL, e1, e2, ⟨⟨r, w', hv, hp, hb⟩, hz, hk⟩, st⟩ := hr T hT X
  cases hv
  rw [h0] at hz hk
  obtain ⟨t2, a1, b1⟩ := kk r w' T'.heap (locs ++ L) hp (by rw [e1]; exact hb)
    ⟨Nat.le_trans hS.1 (by rw [e1]; exact hz), fun q h1 h2 => by rw [e1, hk q (Nat.lt_of_lt_of_le h1 hS.1) h2]; exact hS.2.1 q h1 h2, fun q hq => by
      rcases List.mem_append.mp hq with h | h
      · exact hS.2.2 q h
      · exact hL q h⟩ T' rfl X'
  exact ⟨t2, st t2 a1, b1⟩
theorem qs_good (hall : qs_all) {k : Nat} {x : qs_Ent} (hk : 0 < k) (he : qm_ent k = some x) : GoodIn qs_TB (qs_ws x) := by
  intro w hw
  rcases List.mem_cons.mp hw with rfl | hw
  · exact ⟨qs_in (hall.2.2 k x hk he).2.1 rfl, good_of_word rfl⟩
  · exact ⟨hw, good_of_word (List.mem_filter.mp hw).2⟩
theorem qs_split (st : List Value) (n : Nat) : st.map (qs_tv xa base) = (((st.take n).reverse).map (qs_tv xa base)).reverse ++ (st.drop n).map (qs_tv xa base) := by
  rw [← List.map_reverse, List.reverse_reverse, ← List.map_append, List.take_append_drop]
theorem qs_splitR {st : List Value} {n : Nat} {v : Value} (h : st[n]? = some v) : st.map (qs_tv xa base) = (((st.take n).reverse).map (qs_tv xa base)).reverse ++ qs_tv xa base v :: (st.drop (n + 1)).map (qs_tv xa base) := by
  rw [qs_split st n]
  obtain ⟨hn, hv⟩ := List.getElem?_eq_some_iff.mp h
  rw [List.drop_eq_getElem_cons hn, hv]
  rfl
theorem qs_take_len {st : List Value} {n : Nat} (h : n ≤ st.length) : (((st.take n).reverse).map (qs_tv xa base)).length = n := by
  rw [List.length_map, List.length_reverse, List.length_take, Nat.min_eq_left h]
theorem qs_pre (hK : va_K D qx_cl (qs_tys cA) s) (hX : qs_X xa base X s s.heap) {w : qm_W} {H : Heap} {locs : List Loc} (hR : qs_R xa base cA D w H) (hS : va_S (qs_A base) s.heap H locs) {U : State} (hU : U.heap = H) (hW : s.WarmedH U.vm) : qs_B xa base cA D X w U := by
  refine ⟨by rw [hU]; exact hR, va_K.moved hW.alike hK, ?_⟩
  rw [hU]
  exact qs_X_moved hW (qs_X_kept hS.2.1 hX)
set_option maxHeartbeats 4000000 in
set_option maxRecDepth 100000 in
/-- a call of the small machine is one of the machine -/
theorem qs_do (hall : qs_all) (hx : p.tables.exec = Jvm.exec) (hb : c.code = cc) (hml : c.maxLocals = nL) (hown : s.vm.findClass (qx_on o) = some m.cls) (hts : ∀ w ∈ qs_TB, w.before args s = true) (hK : va_K D qx_cl (qs_tys cA) s) (hX : qs_X xa base X s s.heap) {d : Nat} (hR1 : d + 1 ≤ R.frames) (hR2 : 60 * (d + 1) ≤ R.locals)
    {C : Nat → List Value → qm_W → (Option Value → qm_W → Prop) → Prop} (hC : ∀ (k : Nat) (x : qs_Ent) (as : List Value) (w : qm_W) (Q : Option Value → qm_W → Prop), 0 < k → qm_ent k = some x → C k as w Q → Met l x.2.1 (qs_ws x) (qs_rm d x) (va_Pc (as.map (qs_tv xa base)) (qs_B xa base cA D X w)) (qs_Q xa base cA D Q) x.2.2.2.2.2.1 x.2.2.2.2.2.2.1 (qs_A base))
    {M : qm_M} (hM5 : M.2.2.2.2.1 = R.cells) (hM6 : M.2.2.2.2.2 = R.slots) {pc len r1 r2 r3 : Nat} {i : Instr} {rv : Value} (hdec : decode cc pc = .ok (i, len)) (hok : qs_ok o (pc, i, len, r1, r2, r3, rv)) {ls : qm_L} {st : List Value} {w : qm_W} {cn n : Nat} {k : Nat × List Value × Nat × List Value}
    (hf : qm_call X (pc, i, len, r1, r2, r3, rv) st w = some k) (h5 : cn + (qm_bud k.1).1 ≤ M.2.2.2.2.1) (h6 : n + (qm_bud k.1).2 ≤ M.2.2.2.2.2)
    (K : C k.1 k.2.1 w (fun r w' => qs_P xa base cA D p l e R s m args below meth c Z nL (k.2.2.1, ls, r.toList ++ k.2.2.2, w', cn + (qm_bud k.1).1, n + (qm_bud k.1).2))) : qs_P xa base cA D p l e R s m args below meth c Z nL (pc, ls, st, w, cn, n) := by
  have hroom : ∀ (k : Nat) (x : qs_Ent), 0 < k → qm_ent k = some x → (qs_rm d x).frames + 1 ≤ R.frames ∧ 8 + (x.2.2.2.1 + 11) + (qs_rm d x).locals ≤ R.locals := by
    intro k x hk he
    have := (hall.2.2 k x hk he).2.2.2.1
    refine ⟨hR1, ?_⟩
    show 8 + (x.2.2.2.1 + 11) + 60 * d ≤ R.locals
    omega
  have hbud : ∀ (k : Nat) (x : qs_Ent), qm_ent k = some x → qm_bud k = (x.2.2.2.2.2.1, x.2.2.2.2.2.2.1) := by
    intro k x he
    unfold qm_bud
    rw [he]
  cases i with
  | invokevirtual i =>
    simp only [qm_call] at hf
    split at hf
    · rename_i a hst
      split at hf
      · rename_i ci fs hcell
        split at hf
        · rename_i h
          obtain ⟨rfl, h3, rfl, hsm⟩ := h
          cases hf
          obtain ⟨hk0, x, he, hna, hlk, hw1, hw2, hw3, hrc⟩ := hok h3
          have hk0 : 0 < r1 := hk0
          have he : qm_ent r1 = some x := he
          have hM := hC r1 x _ w _ hk0 he K
          have hbd := hbud r1 x he
          intro H locs lsA hl hR hS
          have hn : r2 < st.length := (List.getElem?_eq_some_iff.mp hst).1
          have hrec : ∃ cell : Cell, H[qs_ad xa base a]? = some cell ∧ cell.vm.isStatics = false ∧ s.vm.findClass x.2.1.cls = some cell.cls := by
            by_cases ha : a < 16
            · rw [qs_cell_lo ha] at hcell
              obtain ⟨e13, hO, -, -⟩ := hX.2.1 a _ _ ha hcell
              rw [qs_ad_lo ha]
              obtain ⟨cell, g1, g2, g3, -⟩ := va_O.kept hO hS.2.1
              refine ⟨cell, g1, g2, ?_⟩
              rcases hrc with ⟨-, hrc⟩ | ⟨ci', N, hrv, hci, -⟩
              · rw [hrc]; exact g3
              · have hrv : Value.ref ci = .ref ci' := hrv
                cases hrv
                have hci : ci < 13 := hci
                rw [e13] at hci
                exact absurd hci (by decide)
            · have ha := Nat.le_of_not_lt ha
              rw [qs_cell_hi ha] at hcell
              rw [qs_ad_hi ha]
              rcases hrc with ⟨hrv, -⟩ | ⟨ci', N, hrv, -, hcl⟩
              · have hrv : Value.ref ci = .ref 13 := hrv
                cases hrv
                obtain ⟨rr, hrr, -⟩ := hR.2 _ _ hcell
                cases hrr
              · have hrv : Value.ref ci = .ref ci' := hrv
                cases hrv
                exact va_recv hK (qs_P1 hR hcell) hcl (q0 := 0) rfl
          have hstk : (st.map (qs_tv xa base)) = (((st.take r2).reverse).map (qs_tv xa base)).reverse ++ .ref (qs_ad xa base a) :: (st.drop (r2 + 1)).map (qs_tv xa base) := qs_splitR hst
          have hpre : PreV s H x.2.1.cls (qs_ad xa base a) (va_Pc ((Value.ref a :: (st.take r2).reverse).map (qs_tv xa base)) (qs_B xa base cA D X w)) (((st.take r2).reverse).map (qs_tv xa base)) :=
            ⟨qs_blind, hrec, fun U hU hW => ⟨rfl, qs_pre hK hX hR hS hU hW⟩⟩
          have hcap : cn + x.2.2.2.2.2.1 ≤ R.cells ∧ n + x.2.2.2.2.2.2.1 ≤ R.slots := by rw [hbd] at h5 h6; exact ⟨hM5 ▸ h5, hM6 ▸ h6⟩
          show W p l e R s m args below meth c H locs cn n Z (F0 m pc lsA (st.map (qs_tv xa base)))
          rw [hstk]
          have hcont : ∀ (r : Option Value) (w' : qm_W) (H1 : Heap) (locs1 : List Loc), qs_P xa base cA D p l e R s m args below meth c Z nL (pc + 3, ls, r.toList ++ st.drop (r2 + 1), w', cn + (qm_bud r1).1, n + (qm_bud r1).2) → qs_R xa base cA D w' H1 → va_S (qs_A base) s.heap H1 locs1 → W p l e R s m args below meth c H1 locs1 (cn + x.2.2.2.2.2.1) (n + x.2.2.2.2.2.2.1) Z (F0 m (pc + 3) lsA ((r.map (qs_tv xa base)).toList ++ (st.drop (r2 + 1)).map (qs_tv xa base))) := by
            intro r w' H1 locs1 hP hR1 hS1
            have := hP H1 locs1 lsA hl hR1 hS1
            rw [hbd] at this
            simp only [List.map_append] at this
            have e : (r.toList).map (qs_tv xa base) = (r.map (qs_tv xa base)).toList := by cases r <;> rfl
            rw [e] at this
            exact this
          by_cases h1 : r3 = 1
          · have hlk : qs_link o i x.2.1 (decide (r3 = 1)) := hlk
            rw [decide_eq_true h1] at hlk
            obtain ⟨host, hlk⟩ := hlk
            exact qs_call (va_runVN (As := ((st.take r2).reverse).map (qs_tv xa base)) (rest := (st.drop (r2 + 1)).map (qs_tv xa base)) ⟨hx, hb, hml, hown, hts⟩ hM ⟨va_cnB r2 hts (qs_good hall hk0 he) rfl rfl rfl (hX.2.2.2.2.1 _ hlk) (hts _ (qs_in hw3 rfl)) hna (hroom r1 x hk0 he), hts _ (qs_in hw1 rfl), hts _ (qs_in hw2 rfl)⟩ hpre rfl (qs_take_len (Nat.le_of_lt hn)) hl.1 rfl (lv_room (by rw [qs_sum_map]; exact hsm)) hdec hcap) hS hcont
          · have hlk : qs_link o i x.2.1 (decide (r3 = 1)) := hlk
            rw [decide_eq_false h1] at hlk
            have hlk : Cond.methodLink (qx_on o) i x.2.1 ∈ lw_tbl := hlk
            have hG : GoodIn qs_TB (wsV (qx_on o) i x.2.1.cls x.2.1 (qs_ws x)) := by
              intro w hw
              rcases List.mem_append.mp hw with hw | hw
              · rcases List.mem_cons.mp hw with rfl | hw
                · exact ⟨qs_in hlk rfl, good_of_word rfl⟩
                rcases List.mem_cons.mp hw with rfl | hw
                · exact ⟨qs_in hw1 rfl, good_of_word rfl⟩
                rcases List.mem_cons.mp hw with rfl | hw
                · exact ⟨qs_in hw2 rfl, good_of_word rfl⟩
                rcases List.mem_cons.mp hw with rfl | hw
                · exact ⟨qs_in hw3 rfl, good_of_word rfl⟩
                · cases hw
              · exact qs_good hall hk0 he w hw
            exact qs_call (va_runV (As := ((st.take r2).reverse).map (qs_tv xa base)) (rest := (st.drop (r2 + 1)).map (qs_tv xa base)) ⟨hx, hb, hml, hown, hts⟩ hM (cwV r2 hts hG rfl rfl rfl ⟨rfl, hna⟩ (hroom r1 x hk0 he)) hpre rfl (qs_take_len (Nat.le_of_lt hn)) hl.1 rfl (lv_room (by rw [qs_sum_map]; exact hsm)) hdec hcap) hS hcont
        · cases hf
      · cases hf
    · cases hf
  | invokestatic i =>
    simp only [qm_call] at hf
    split at hf
    · rename_i h
      obtain ⟨rfl, h3, hn, hsm⟩ := h
      cases hf
      obtain ⟨hk0, x, he, hna, hlk, hw1, hw3⟩ := hok.1 h3
      have hk0 : 0 < r1 := hk0
      have he : qm_ent r1 = some x := he
      have hM := hC r1 x _ w _ hk0 he K
      have hbd := hbud r1 x he
      intro H locs lsA hl hR hS
      have hpre : PreS s H (va_Pc (((st.take r2).reverse).map (qs_tv xa base)) (qs_B xa base cA D X w)) (((st.take r2).reverse).map (qs_tv xa base)) :=
        ⟨qs_blind, fun U hU hW => ⟨rfl, qs_pre hK hX hR hS hU hW⟩⟩
      have hcap : cn + x.2.2.2.2.2.1 ≤ R.cells ∧ n + x.2.2.2.2.2.2.1 ≤ R.slots := by rw [hbd] at h5 h6; exact ⟨hM5 ▸ h5, hM6 ▸ h6⟩
      show W p l e R s m args below meth c H locs cn n Z (F0 m pc lsA (st.map (qs_tv xa base)))
      rw [qs_split st r2]
      have hcont : ∀ (r : Option Value) (w' : qm_W) (H1 : Heap) (locs1 : List Loc), qs_P xa base cA D p l e R s m args below meth c Z nL (pc + 3, ls, r.toList ++ st.drop r2, w', cn + (qm_bud r1).1, n + (qm_bud r1).2) → qs_R xa base cA D w' H1 → va_S (qs_A base) s.heap H1 locs1 → W p l e R s m args below meth c H1 locs1 (cn + x.2.2.2.2.2.1) (n + x.2.2.2.2.2.2.1) Z (F0 m (pc + 3) lsA ((r.map (qs_tv xa base)).toList ++ (st.drop r2).map (qs_tv xa base))) := by
        intro r w' H1 locs1 hP hR1 hS1
        have := hP H1 locs1 lsA hl hR1 hS1
        rw [hbd] at this
        simp only [List.map_append] at this
        have e : (r.toList).map (qs_tv xa base) = (r.map (qs_tv xa base)).toList := by cases r <;> rfl
        rw [e] at this
        exact this
      by_cases h1 : r3 = 3
      · have hlk : qs_link o i x.2.1 (decide (r3 = 3)) := hlk
        rw [decide_eq_true h1] at hlk
        obtain ⟨host, hlk⟩ := hlk
        exact qs_call (va_runSN (As := ((st.take r2).reverse).map (qs_tv xa base)) (rest := (st.drop r2).map (qs_tv xa base)) ⟨hx, hb, hml, hown, hts⟩ hM ⟨va_cnB r2 hts (qs_good hall hk0 he) rfl rfl rfl (hX.2.2.2.2.1 _ hlk) (hts _ (qs_in hw3 rfl)) hna (hroom r1 x hk0 he), hts _ (qs_in hw1 rfl), trivial⟩ hpre rfl (qs_take_len hn) hl.1 rfl (lv_room (by rw [qs_sum_map]; exact hsm)) hdec hcap) hS hcont
      · have hlk : qs_link o i x.2.1 (decide (r3 = 3)) := hlk
        rw [decide_eq_false h1] at hlk
        have hlk : Cond.methodLink (qx_on o) i x.2.1 ∈ lw_tbl := hlk
        have hG : GoodIn qs_TB (va_wsS (qx_on o) i x.2.1 (qs_ws x)) := by
          intro w hw
          rcases List.mem_append.mp hw with hw | hw
          · rcases List.mem_cons.mp hw with rfl | hw
            · exact ⟨qs_in hlk rfl, good_of_word rfl⟩
            rcases List.mem_cons.mp hw with rfl | hw
            · exact ⟨qs_in hw1 rfl, good_of_word rfl⟩
            rcases List.mem_cons.mp hw with rfl | hw
            · exact ⟨qs_in hw3 rfl, good_of_word rfl⟩
            · cases hw
          · exact qs_good hall hk0 he w hw
        exact qs_call (va_runS (As := ((st.take r2).reverse).map (qs_tv xa base)) (rest := (st.drop r2).map (qs_tv xa base)) ⟨hx, hb, hml, hown, hts⟩ hM (va_cwS r2 hts hG rfl rfl rfl hna (hroom r1 x hk0 he)) hpre rfl (qs_take_len hn) hl.1 rfl (lv_room (by rw [qs_sum_map]; exact hsm)) hdec hcap) hS hcont
    · cases hf
  | invokespecial i =>
    simp only [qm_call] at hf
    split at hf
    · rename_i a hst
      · split at hf
        · rename_i h
          obtain ⟨rfl, h3, hsm⟩ := h
          cases hf
          obtain ⟨hk0, x, he, hna, hlk, hw1, hw3, hnm, hret⟩ := hok.2 h3
          have hk0 : 0 < r1 := hk0
          have he : qm_ent r1 = some x := he
          have hM := hC r1 x _ w _ hk0 he K
          have hbd := hbud r1 x he
          intro H locs lsA hl hR hS
          have hn : r2 < st.length := (List.getElem?_eq_some_iff.mp hst).1
          have hstk : (st.map (qs_tv xa base)) = (((st.take r2).reverse).map (qs_tv xa base)).reverse ++ .ref (qs_ad xa base a) :: (st.drop (r2 + 1)).map (qs_tv xa base) := qs_splitR hst
          have hpre : PreS s H (va_Pc ((Value.ref a :: (st.take r2).reverse).map (qs_tv xa base)) (qs_B xa base cA D X w)) (.ref (qs_ad xa base a) :: ((st.take r2).reverse).map (qs_tv xa base)) :=
            ⟨qs_blind, fun U hU hW => ⟨rfl, qs_pre hK hX hR hS hU hW⟩⟩
          have hcap : cn + x.2.2.2.2.2.1 ≤ R.cells ∧ n + x.2.2.2.2.2.2.1 ≤ R.slots := by rw [hbd] at h5 h6; exact ⟨hM5 ▸ h5, hM6 ▸ h6⟩
          show W p l e R s m args below meth c H locs cn n Z (F0 m pc lsA (st.map (qs_tv xa base)))
          rw [hstk]
          have hcont : ∀ (r : Option Value) (w' : qm_W) (H1 : Heap) (locs1 : List Loc), qs_P xa base cA D p l e R s m args below meth c Z nL (pc + 3, ls, r.toList ++ st.drop (r2 + 1), w', cn + (qm_bud r1).1, n + (qm_bud r1).2) → qs_R xa base cA D w' H1 → va_S (qs_A base) s.heap H1 locs1 → W p l e R s m args below meth c H1 locs1 (cn + x.2.2.2.2.2.1) (n + x.2.2.2.2.2.2.1) Z (F0 m (pc + 3) lsA ((r.map (qs_tv xa base)).toList ++ (st.drop (r2 + 1)).map (qs_tv xa base))) := by
            intro r w' H1 locs1 hP hR1 hS1
            have := hP H1 locs1 lsA hl hR1 hS1
            rw [hbd] at this
            simp only [List.map_append] at this
            have e : (r.toList).map (qs_tv xa base) = (r.map (qs_tv xa base)).toList := by cases r <;> rfl
            rw [e] at this
            exact this
          have hws : qs_ws x = Cond.code x.2.1 x.2.2.1 x.2.2.2.1 none :: qs_TB := by unfold qs_ws; rw [hret]
          by_cases h1 : r3 = 5
          · have hlk : qs_link o i x.2.1 (decide (r3 = 5)) := hlk
            rw [decide_eq_true h1] at hlk
            obtain ⟨host, hlk⟩ := hlk
            exact qs_call (va_runIN (As := ((st.take r2).reverse).map (qs_tv xa base)) (rest := (st.drop (r2 + 1)).map (qs_tv xa base)) ⟨hx, hb, hml, hown, hts⟩ hM ⟨va_cnB r2 hts (qs_good hall hk0 he) hws rfl rfl (hX.2.2.2.2.1 _ hlk) (hts _ (qs_in hw3 rfl)) hna (hroom r1 x hk0 he), hnm, hts _ (qs_in hw1 rfl)⟩ hpre rfl (qs_take_len (Nat.le_of_lt hn)) hl.1 rfl (lv_room (by rw [qs_sum_map]; exact hsm)) hdec hcap) hS hcont
          · have hlk : qs_link o i x.2.1 (decide (r3 = 5)) := hlk
            rw [decide_eq_false h1] at hlk
            have hlk : Cond.methodLink (qx_on o) i x.2.1 ∈ lw_tbl := hlk
            exact qs_call (va_runI (As := ((st.take r2).reverse).map (qs_tv xa base)) (rest := (st.drop (r2 + 1)).map (qs_tv xa base)) ⟨hx, hb, hml, hown, hts⟩ hM (cwI r2 hts (qs_good hall hk0 he) hws rfl rfl (hts _ (qs_in hw3 rfl)) (hts _ (qs_in hlk rfl)) (hts _ (qs_in hw1 rfl)) hnm hna (hroom r1 x hk0 he)) hpre rfl (qs_take_len (Nat.le_of_lt hn)) hl.1 rfl (lv_room (by rw [qs_sum_map]; exact hsm)) hdec hcap) hS hcont
        · cases hf
    · cases hf
  | _ => cases hf
end QS5
