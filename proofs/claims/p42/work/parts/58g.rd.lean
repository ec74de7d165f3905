/-! reading a text, step by step: what has been read, what was laid down for it -/
def qDep (nm : Int) (f : (Nat → Int) → Int) : Prop := ∀ N N' : Nat → Int, (∀ k : Int, 0 ≤ k → k < 9 → qbi nm k = 1 → N k.toNat = N' k.toNat) → f N = f N'
def qMo (nm nm2 : Int) : Prop := ∀ k : Int, 0 ≤ k → k < 9 → qbi nm k = 1 → qbi nm2 k = 1
def qCr (cd : Nat → Int) (i j : Int) : Prop := ∀ k : Int, i ≤ k → k < j → 0 ≤ cd k.toNat ∧ cd k.toNat < 8388608
def qKp (cd cd2 : Nat → Int) (j : Int) : Prop := ∀ k : Int, 0 ≤ k → k < j → cd2 k.toNat = cd k.toNat
theorem qDep_mo {nm nm2 : Int} {f : (Nat → Int) → Int} (h : qDep nm f) (hm : qMo nm nm2) : qDep nm2 f := fun N N' hn => h N N' (fun k h1 h2 h3 => hn k h1 h2 (hm k h1 h2 h3))
theorem qMo_rf (nm : Int) : qMo nm nm := fun _ _ _ h => h
theorem qMo_tr {a b c : Int} (h1 : qMo a b) (h2 : qMo b c) : qMo a c := fun k p q r => h2 k p q (h1 k p q r)
theorem qKp_rf (cd : Nat → Int) (j : Int) : qKp cd cd j := fun _ _ _ => rfl
theorem qKp_tr {a b c : Nat → Int} {j i : Int} (h1 : qKp a b j) (h2 : qKp b c i) (h : j ≤ i) : qKp a c j := fun k p q => (h2 k p (by omega)).trans (h1 k p q)
theorem qKp_u (cd : Nat → Int) {i j : Int} (v : Int) (h : j ≤ i) : qKp cd (qzu cd i.toNat v) j := fun k p q => by
  unfold qzu
  rw [if_neg (by omega)]
theorem qzu_at (cd : Nat → Int) (i : Nat) (v : Int) : qzu cd i v i = v := if_pos rfl
/-- from at_, sz, nm, cd on: P is what the text gives, at2 and so on is where it stands -/
def qRd (ln : Int) (P : (Nat → Int) → qtx_3) (at_ sz nm : Int) (cd : Nat → Int) (at2 sz2 nm2 sk2 : Int) (cd2 : Nat → Int) : Prop :=
  ((0 ≤ at_ ∧ at_ ≤ at2 ∧ at2 ≤ ln) ∧ (0 ≤ sz ∧ sz ≤ sz2 ∧ sz2 - sz ≤ at2 - at_) ∧ (-2147483648 ≤ nm2 ∧ nm2 ≤ 2147483647) ∧ (sk2 = 0 ∨ sk2 = 1)) ∧
  (∀ N, (P N).2.1 = at2 ∧ (P N).2.2 = sk2) ∧ qMo nm nm2 ∧ qKp cd cd2 sz ∧ qCr cd2 sz sz2 ∧
  (sk2 = 0 → qtx_X cd2 sz sz2 (fun N => (P N).1) ∧ qDep nm2 (fun N => (P N).1))
theorem qRd_cg {ln : Int} {P P' : (Nat → Int) → qtx_3} {at_ sz nm : Int} {cd : Nat → Int} {at2 sz2 nm2 sk2 : Int} {cd2 : Nat → Int} (h : qRd ln P at_ sz nm cd at2 sz2 nm2 sk2 cd2) (e : ∀ N, P' N = P N) : qRd ln P' at_ sz nm cd at2 sz2 nm2 sk2 cd2 := by
  rw [show P' = P from funext e]
  exact h
theorem qRd_st {ln : Int} {P : (Nat → Int) → qtx_3} {at_ sz nm : Int} (cd : Nat → Int) (h0 : 0 ≤ at_ ∧ at_ ≤ ln) (hs : 0 ≤ sz) (hn : -2147483648 ≤ nm ∧ nm ≤ 2147483647) (h : ∀ N, P N = (0, at_, 1)) : qRd ln P at_ sz nm cd at_ sz nm 1 cd :=
  ⟨⟨⟨h0.1, Int.le_refl _, h0.2⟩, ⟨hs, Int.le_refl _, by omega⟩, hn, Or.inr rfl⟩, fun N => by rw [h N]; exact ⟨rfl, rfl⟩, qMo_rf nm, qKp_rf cd sz, fun k h1 h2 => False.elim (by omega), fun e => absurd e (by decide)⟩
theorem qRd_num {ln : Int} {P : (Nat → Int) → qtx_3} {at_ sz nm at2 v : Int} (cd : Nat → Int) (h0 : 0 ≤ at_ ∧ at_ < at2 ∧ at2 ≤ ln) (hs : 0 ≤ sz) (hn : -2147483648 ≤ nm ∧ nm ≤ 2147483647) (hv : 0 ≤ v ∧ v < 65536) (h : ∀ N, P N = (v, at2, 0)) : qRd ln P at_ sz nm cd at2 (sz + 1) nm 0 (qzu cd sz.toNat (48 * 65536 + v)) := by
  refine ⟨⟨⟨h0.1, by omega, h0.2.2⟩, ⟨hs, by omega, by omega⟩, hn, Or.inl rfl⟩, fun N => by rw [h N]; exact ⟨rfl, rfl⟩, qMo_rf nm, qKp_u cd _ (Int.le_refl _), fun k h1 h2 => ?_, fun _ => ⟨?_, ?_⟩⟩
  · rw [show k = sz by omega, qzu_at]; omega
  · rw [show (fun N => (P N).1) = fun _ => v from funext fun N => by rw [h N]]
    exact qtx_X_num hs hv (qzu_at _ _ _)
  · intro N N' _
    show (P N).1 = (P N').1
    rw [h N, h N']
theorem qRd_nam {ln : Int} {P : (Nat → Int) → qtx_3} {at_ sz nm nm2 m : Int} (cd : Nat → Int) (h0 : 0 ≤ at_ ∧ at_ < ln) (hs : 0 ≤ sz) (hn : -2147483648 ≤ nm2 ∧ nm2 ≤ 2147483647) (hm : 0 ≤ m ∧ m < 9) (hb : ∀ k : Int, 0 ≤ k → k < 9 → (qbi nm2 k = 1 ↔ qbi nm k = 1 ∨ k = m)) (h : ∀ N, P N = (N m.toNat, at_ + 1, 0)) : qRd ln P at_ sz nm cd (at_ + 1) (sz + 1) nm2 0 (qzu cd sz.toNat (97 * 65536 + m)) := by
  refine ⟨⟨⟨h0.1, by omega, by omega⟩, ⟨hs, by omega, by omega⟩, hn, Or.inl rfl⟩, fun N => by rw [h N]; exact ⟨rfl, rfl⟩, fun k h1 h2 h3 => (hb k h1 h2).2 (Or.inl h3), qKp_u cd _ (Int.le_refl _), fun k h1 h2 => ?_, fun _ => ⟨?_, ?_⟩⟩
  · rw [show k = sz by omega, qzu_at]; omega
  · rw [show (fun N => (P N).1) = fun N => N m.toNat from funext fun N => by rw [h N]]
    exact qtx_X_nam hs hm (qzu_at _ _ _)
  · intro N N' hN
    show (P N).1 = (P N').1
    rw [h N, h N']
    exact hN m hm.1 hm.2 ((hb m hm.1 hm.2).2 (Or.inr rfl))
theorem qRd_un {ln : Int} {G P : (Nat → Int) → qtx_3} {at_ sz nm at2 sz2 nm2 sk2 c e : Int} {cd cd2 : Nat → Int} (ih : qRd ln G (at_ + 1) sz nm cd at2 sz2 nm2 sk2 cd2) (h0 : 0 ≤ at_) (hc : (c = 45 ∧ e = 126) ∨ (c = 33 ∧ e = 33)) (h : ∀ N, P N = qtx_un c (G N)) : qRd ln P at_ sz nm cd at2 (sz2 + 1) nm2 sk2 (qzu cd2 sz2.toNat (e * 65536 + 0)) := by
  obtain ⟨hr, h1, h2, h3, h4, h5⟩ := ih
  have hx : ∀ k : Int, sz ≤ k → k < sz2 → qzu cd2 sz2.toNat (e * 65536 + 0) k.toNat = cd2 k.toNat := fun k a b => qKp_u cd2 (i := sz2) _ (Int.le_refl _) k (by omega) b
  refine ⟨⟨⟨h0, by omega, by omega⟩, ⟨hr.2.1.1, by omega, by omega⟩, hr.2.2.1, hr.2.2.2⟩, fun N => by rw [h N]; exact h1 N, h2, qKp_tr h3 (qKp_u cd2 (i := sz2) _ (Int.le_refl _)) (by omega), fun k a b => ?_, fun z => ⟨?_, ?_⟩⟩
  · by_cases q : k = sz2
    · rw [q, qzu_at]; omega
    · rw [hx k a (by omega)]; exact h4 k a (by omega)
  · have hX := qtx_X_fr (h5 z).1 hx
    rw [show (fun N => (P N).1) = fun N => qtx_ng c (G N).1 from funext fun N => by rw [h N]; rfl]
    rcases hc with ⟨rfl, rfl⟩ | ⟨rfl, rfl⟩
    · exact qtx_X_neg hX (qzu_at _ _ _)
    · exact qtx_X_not hX (qzu_at _ _ _)
  · intro N N' hN
    show (P N).1 = (P N').1
    rw [h N, h N']
    exact congrArg (qtx_ng c) ((h5 z).2 N N' hN)
theorem qRd_pc {ln : Int} {T : Nat → Int} {G P : (Nat → Int) → qtx_3} {at_ sz nm at2 sz2 nm2 sk2 at3 sk3 : Int} {cd cd2 : Nat → Int} (ih : qRd ln G (at_ + 1) sz nm cd at2 sz2 nm2 sk2 cd2) (h0 : 0 ≤ at_) (hp : (sk2 = 0 ∧ qtx_c T ln at2 = 41 ∧ at3 = at2 + 1 ∧ sk3 = 0) ∨ (¬ (sk2 = 0 ∧ qtx_c T ln at2 = 41) ∧ at3 = at2 ∧ sk3 = 1)) (h : ∀ N, P N = qtx_pc T ln (G N)) : qRd ln P at_ sz nm cd at3 sz2 nm2 sk3 cd2 := by
  obtain ⟨hr, h1, h2, h3, h4, h5⟩ := ih
  have hc := qtx_c_c T ln at2
  rcases hp with ⟨p1, p2, rfl, rfl⟩ | ⟨p1, p2, p3⟩
  · have e : ∀ N, P N = ((G N).1, at2 + 1, 0) := fun N => by
      rw [h N]
      unfold qtx_pc
      rw [(h1 N).1, (h1 N).2, if_pos ⟨p1, p2⟩]
    refine ⟨⟨⟨h0, by omega, by omega⟩, ⟨hr.2.1.1, by omega, by omega⟩, hr.2.2.1, Or.inl rfl⟩, fun N => by rw [e N]; exact ⟨rfl, rfl⟩, h2, h3, h4, fun _ => ?_⟩
    rw [show (fun N => (P N).1) = fun N => (G N).1 from funext fun N => by rw [e N]]
    exact h5 p1
  · rw [p2, p3]
    have e : ∀ N, P N = (0, at2, 1) := fun N => by
      rw [h N]
      unfold qtx_pc
      rw [(h1 N).1, (h1 N).2, if_neg p1]
    exact ⟨⟨⟨h0, by omega, by omega⟩, ⟨hr.2.1.1, by omega, by omega⟩, hr.2.2.1, Or.inr rfl⟩, fun N => by rw [e N]; exact ⟨rfl, rfl⟩, h2, h3, h4, fun q => absurd q (by decide)⟩
theorem qRd_bin {ln : Int} {P S Q : (Nat → Int) → qtx_3} {at_ sz nm at1 sz1 nm1 at2 sz2 nm2 sk2 c : Int} {cd cd1 cd2 : Nat → Int} (hP : qRd ln P at_ sz nm cd at1 sz1 nm1 0 cd1) (hS : qRd ln S (at1 + 1) sz1 nm1 cd1 at2 sz2 nm2 sk2 cd2) (hc : 0 ≤ qtx_lo c) (h : ∀ N, Q N = qtx_cm c (P N) (S N)) : qRd ln Q at_ sz nm cd at2 (sz2 + 1) nm2 sk2 (qzu cd2 sz2.toNat (c * 65536 + 0)) := by
  obtain ⟨hr, h1, h2, h3, h4, h5⟩ := hP
  obtain ⟨gr, g1, g2, g3, g4, g5⟩ := hS
  have ho := qtx_lo_c c
  have hx : ∀ k : Int, 0 ≤ k → k < sz2 → qzu cd2 sz2.toNat (c * 65536 + 0) k.toNat = cd2 k.toNat := qKp_u cd2 (i := sz2) _ (Int.le_refl _)
  refine ⟨⟨⟨hr.1.1, by omega, by omega⟩, ⟨hr.2.1.1, by omega, by omega⟩, gr.2.2.1, gr.2.2.2⟩, fun N => by rw [h N]; exact g1 N, qMo_tr h2 g2, qKp_tr h3 (qKp_tr g3 (qKp_u cd2 (i := sz2) _ (Int.le_refl _)) (by omega)) (by omega), fun k a b => ?_, fun z => ⟨?_, ?_⟩⟩
  · by_cases q : k = sz2
    · rw [q, qzu_at]; omega
    · rw [hx k (by omega) (by omega)]
      by_cases q2 : k < sz1
      · rw [g3 k (by omega) q2]; exact h4 k a q2
      · exact g4 k (by omega) (by omega)
  · rw [show (fun N => (Q N).1) = fun N => qtx_ap c (P N).1 (S N).1 from funext fun N => by rw [h N]; rfl]
    refine qtx_X_bin (qtx_X_fr (h5 rfl).1 (fun k a b => ?_)) (qtx_X_fr (g5 z).1 (fun k a b => hx k (by omega) b)) hc ((qzu_at _ _ _).trans (by omega))
    rw [hx k (by omega) (by omega)]
    exact g3 k (by omega) b
  · intro N N' hN
    show (Q N).1 = (Q N').1
    rw [h N, h N']
    show qtx_ap c (P N).1 (S N).1 = qtx_ap c (P N').1 (S N').1
    have e1 : (P N).1 = (P N').1 := qDep_mo (h5 rfl).2 g2 N N' hN
    have e2 : (S N).1 = (S N').1 := (g5 z).2 N N' hN
    rw [e1, e2]
/-- a line -/
def qRl (ln : Int) (L : (Nat → Int) → Int × qtx_3) (at_ sz nm : Int) (cd : Nat → Int) (at2 sz2 nm2 sk2 : Int) (cd2 : Nat → Int) : Prop :=
  ((0 ≤ at_ ∧ at_ ≤ at2 ∧ at2 ≤ ln) ∧ (0 ≤ sz ∧ sz < sz2 ∧ sz2 - sz ≤ at2 - at_ + 1) ∧ (-2147483648 ≤ nm2 ∧ nm2 ≤ 2147483647) ∧ (sk2 = 0 ∨ sk2 = 1)) ∧
  (∀ N, (L N).2.2.1 = at2 ∧ (L N).2.2.2 = sk2) ∧ qMo nm nm2 ∧ qKp cd cd2 sz ∧ qCr cd2 sz sz2 ∧
  (sk2 = 0 → (∀ gi ge : (Nat → Int) → Int, qtx_Y cd sz gi ge → qtx_Y cd2 sz2 (fun N => qtx_gi (gi N) (L N).1) (fun N => qtx_ge (gi N) (L N).1 (ge N) (L N).2.1)) ∧ qDep nm2 (fun N => (L N).1) ∧ qDep nm2 (fun N => (L N).2.1))
theorem qRl_pl {ln : Int} {T : Nat → Int} {E : (Nat → Int) → Int → qtx_3} {at_ sz nm at2 sz2 nm2 sk2 : Int} {cd cd2 : Nat → Int} (hl : ln ≤ 120) (h : qRd ln (fun N => E N at_) at_ sz nm cd at2 sz2 nm2 sk2 cd2) (hc : ¬ (sk2 = 0 ∧ qtx_c T ln at2 = 63)) : qRl ln (fun N => qtx_ln T ln (E N) at_) at_ sz nm cd at2 (sz2 + 1) nm2 sk2 (qzu cd2 sz2.toNat (59 * 65536 + 0)) := by
  obtain ⟨hr, h1, h2, h3, h4, h5⟩ := h
  have hx : ∀ k : Int, 0 ≤ k → k < sz2 → qzu cd2 sz2.toNat (59 * 65536 + 0) k.toNat = cd2 k.toNat := qKp_u cd2 (i := sz2) _ (Int.le_refl _)
  have e : ∀ N, qtx_ln T ln (E N) at_ = (1, E N at_) := fun N => by
    unfold qtx_ln
    rw [(h1 N).1, (h1 N).2, if_neg hc]
  refine ⟨⟨⟨hr.1.1, by omega, by omega⟩, ⟨hr.2.1.1, by omega, by omega⟩, hr.2.2.1, hr.2.2.2⟩, fun N => by show (qtx_ln T ln (E N) at_).2.2.1 = at2 ∧ (qtx_ln T ln (E N) at_).2.2.2 = sk2; rw [e N]; exact h1 N, h2, qKp_tr h3 (qKp_u cd2 (i := sz2) _ (Int.le_refl _)) (by omega), fun k a b => ?_, fun z => ⟨fun gi ge hY => ?_, ?_, ?_⟩⟩
  · by_cases q : k = sz2
    · rw [q, qzu_at]; omega
    · rw [hx k (by omega) (by omega)]; exact h4 k a (by omega)
  · have hX := qtx_X_fr (h5 z).1 (cd2 := qzu cd2 sz2.toNat (59 * 65536 + 0)) (fun k a b => hx k (by omega) b)
    have hY2 := qtx_Y_fr hY (cd2 := qzu cd2 sz2.toNat (59 * 65536 + 0)) (fun k a b => (hx k a (by omega)).trans (h3 k a b))
    have := qtx_Y_pl hY2 hX (by omega) ((qzu_at _ _ _).trans (by omega))
    rw [show (fun N => qtx_gi (gi N) (qtx_ln T ln (E N) at_).1) = fun N => qtx_gi (gi N) 1 from funext fun N => by rw [e N], show (fun N => qtx_ge (gi N) (qtx_ln T ln (E N) at_).1 (ge N) (qtx_ln T ln (E N) at_).2.1) = fun N => qtx_ge (gi N) 1 (ge N) (E N at_).1 from funext fun N => by rw [e N]]
    exact this
  · intro N N' _
    show (qtx_ln T ln (E N) at_).1 = (qtx_ln T ln (E N') at_).1
    rw [e N, e N']
  · intro N N' hN
    show (qtx_ln T ln (E N) at_).2.1 = (qtx_ln T ln (E N') at_).2.1
    rw [e N, e N']
    exact (h5 z).2 N N' hN
theorem qRl_if {ln : Int} {T : Nat → Int} {E : (Nat → Int) → Int → qtx_3} {at_ sz nm at1 sz1 nm1 at2 sz2 nm2 sk2 : Int} {cd cd1 cd2 : Nat → Int} (hl : ln ≤ 120) (hb : 0 ≤ sz1 ∧ sz1 ≤ 121) (h : qRd ln (fun N => E N at_) at_ sz nm cd at1 sz1 nm1 0 cd1) (hc : qtx_c T ln at1 = 63) (hS : qRd ln (fun N => E N (at1 + 1)) (at1 + 1) (sz1 + 1) nm1 (qzu cd1 sz1.toNat (63 * 65536 + 0)) at2 sz2 nm2 sk2 cd2) : qRl ln (fun N => qtx_ln T ln (E N) at_) at_ sz nm cd at2 (sz2 + 1) nm2 sk2 (qzu (qzu cd2 sz2.toNat (59 * 65536 + 0)) sz1.toNat (63 * 65536 + (sz2 + 1))) := by
  obtain ⟨hr, h1, h2, h3, h4, h5⟩ := h
  obtain ⟨gr, g1, g2, g3, g4, g5⟩ := hS
  have hw : ∀ k : Int, 0 ≤ k → ¬ k = sz1 → k < sz2 → qzu (qzu cd2 sz2.toNat (59 * 65536 + 0)) sz1.toNat (63 * 65536 + (sz2 + 1)) k.toNat = cd2 k.toNat := fun k a b d => by
    unfold qzu
    rw [if_neg (by omega), if_neg (by omega)]
  have hv : ∀ k : Int, 0 ≤ k → k < sz1 → cd2 k.toNat = cd1 k.toNat := fun k a b => (g3 k a (by omega)).trans (qKp_u cd1 (i := sz1) _ (Int.le_refl _) k a b)
  have hz : qzu (qzu cd2 sz2.toNat (59 * 65536 + 0)) sz1.toNat (63 * 65536 + (sz2 + 1)) sz2.toNat = 59 * 65536 := by
    unfold qzu
    rw [if_neg (by omega), if_pos rfl]
    rfl
  have e : ∀ N, qtx_ln T ln (E N) at_ = ((if (E N at_).1 = 0 then 0 else 1), E N (at1 + 1)) := fun N => by
    unfold qtx_ln
    rw [(h1 N).1, (h1 N).2, if_pos ⟨rfl, hc⟩]
  refine ⟨⟨⟨hr.1.1, by omega, by omega⟩, ⟨hr.2.1.1, by omega, by omega⟩, gr.2.2.1, gr.2.2.2⟩, fun N => by show (qtx_ln T ln (E N) at_).2.2.1 = at2 ∧ (qtx_ln T ln (E N) at_).2.2.2 = sk2; rw [e N]; exact g1 N, qMo_tr h2 g2, fun k a b => (hw k a (by omega) (by omega)).trans ((hv k a (by omega)).trans (h3 k a b)), fun k a b => ?_, fun z => ⟨fun gi ge hY => ?_, ?_, ?_⟩⟩
  · by_cases q : k = sz1
    · rw [q, qzu_at]; omega
    · by_cases q2 : k = sz2
      · rw [q2, hz]; omega
      · rw [hw k (by omega) q (by omega)]
        by_cases q3 : k < sz1
        · rw [hv k (by omega) q3]; exact h4 k a q3
        · exact g4 k (by omega) (by omega)
  · have hX := qtx_X_fr (h5 rfl).1 (cd2 := qzu (qzu cd2 sz2.toNat (59 * 65536 + 0)) sz1.toNat (63 * 65536 + (sz2 + 1))) (fun k a b => (hw k (by omega) (by omega) (by omega)).trans (hv k (by omega) b))
    have hX2 := qtx_X_fr (g5 z).1 (cd2 := qzu (qzu cd2 sz2.toNat (59 * 65536 + 0)) sz1.toNat (63 * 65536 + (sz2 + 1))) (fun k a b => hw k (by omega) (by omega) b)
    have hY2 := qtx_Y_fr hY (cd2 := qzu (qzu cd2 sz2.toNat (59 * 65536 + 0)) sz1.toNat (63 * 65536 + (sz2 + 1))) (fun k a b => (hw k a (by omega) (by omega)).trans ((hv k a (by omega)).trans (h3 k a b)))
    have := qtx_Y_if hY2 hX (by omega) (qzu_at _ _ _) (by omega) hX2 (by omega) hz
    rw [show (fun N => qtx_gi (gi N) (qtx_ln T ln (E N) at_).1) = fun N => qtx_gi (gi N) (if (E N at_).1 = 0 then 0 else 1) from funext fun N => by rw [e N], show (fun N => qtx_ge (gi N) (qtx_ln T ln (E N) at_).1 (ge N) (qtx_ln T ln (E N) at_).2.1) = fun N => qtx_ge (gi N) (if (E N at_).1 = 0 then 0 else 1) (ge N) (E N (at1 + 1)).1 from funext fun N => by rw [e N]]
    exact this
  · intro N N' hN
    show (qtx_ln T ln (E N) at_).1 = (qtx_ln T ln (E N') at_).1
    rw [e N, e N']
    show (if (E N at_).1 = 0 then (0 : Int) else 1) = if (E N' at_).1 = 0 then 0 else 1
    have e1 : (E N at_).1 = (E N' at_).1 := qDep_mo (h5 rfl).2 g2 N N' hN
    rw [e1]
  · intro N N' hN
    show (qtx_ln T ln (E N) at_).2.1 = (qtx_ln T ln (E N') at_).2.1
    rw [e N, e N']
    exact (g5 z).2 N N' hN
/-- lines read so far; a text that was read -/
def qRs (ln : Int) (T : Nat → Int) (k : Nat) (at1 sz1 nm1 : Int) (cd1 : Nat → Int) : Prop :=
  ((0 ≤ at1 ∧ at1 ≤ ln) ∧ 0 ≤ sz1 ∧ sz1 + ln - at1 ≤ 120) ∧ ∃ gi ge : (Nat → Int) → Int, qtx_Y cd1 sz1 gi ge ∧ qDep nm1 gi ∧ qDep nm1 ge ∧ qCr cd1 0 sz1 ∧ ∀ N, qtx_W T ln N = qtx_pg T ln (qtx_E T ln N 6) k at1 (gi N) (ge N)
def qRt (ln : Int) (T : Nat → Int) (v sz2 nm2 : Int) (cd2 : Nat → Int) : Prop :=
  (v = -1 ∧ (∀ N, (qtx_W T ln N).2.2 = 0) ∧ (∃ gi : (Nat → Int) → Int, qtx_Y cd2 sz2 gi (fun N => (qtx_W T ln N).1)) ∧ qDep nm2 (fun N => (qtx_W T ln N).1) ∧ qCr cd2 0 sz2) ∨ (0 ≤ v ∧ ∀ N, (qtx_W T ln N).2.1 = v ∧ (qtx_W T ln N).2.2 = 1)
theorem qRs_0 {ln : Int} (T : Nat → Int) (nm : Int) (cd : Nat → Int) (h : 0 ≤ ln ∧ ln ≤ 120) : qRs ln T 121 0 0 nm cd :=
  ⟨⟨⟨Int.le_refl _, h.1⟩, Int.le_refl _, by omega⟩, fun _ => 0, fun _ => 0, qtx_Y_0 cd, fun _ _ _ => rfl, fun _ _ _ => rfl, fun k a b => False.elim (by omega), fun _ => rfl⟩
theorem qDep_gi {nm : Int} {gi h : (Nat → Int) → Int} (h1 : qDep nm gi) (h2 : qDep nm h) : qDep nm (fun N => qtx_gi (gi N) (h N)) := fun N N' hN => by
  show qtx_gi (gi N) (h N) = qtx_gi (gi N') (h N')
  rw [h1 N N' hN, h2 N N' hN]
theorem qDep_ge {nm : Int} {gi h ge v : (Nat → Int) → Int} (h1 : qDep nm gi) (h2 : qDep nm h) (h3 : qDep nm ge) (h4 : qDep nm v) : qDep nm (fun N => qtx_ge (gi N) (h N) (ge N) (v N)) := fun N N' hN => by
  show qtx_ge (gi N) (h N) (ge N) (v N) = qtx_ge (gi N') (h N') (ge N') (v N')
  rw [h1 N N' hN, h2 N N' hN, h3 N N' hN, h4 N N' hN]
theorem qCr_cat {cd cd2 : Nat → Int} {sz sz2 : Int} (h1 : qCr cd 0 sz) (h2 : qKp cd cd2 sz) (h3 : qCr cd2 sz sz2) : qCr cd2 0 sz2 := fun k a b => by
  by_cases c : k < sz
  · rw [h2 k a c]; exact h1 k a c
  · exact h3 k (by omega) b
theorem qRs_go {ln : Int} {T : Nat → Int} {k : Nat} {at1 sz1 nm1 at2 sz2 nm2 : Int} {cd1 cd2 : Nat → Int} (h : qRs ln T (k + 1) at1 sz1 nm1 cd1) (hL : qRl ln (fun N => qtx_ln T ln (qtx_E T ln N 6) at1) at1 sz1 nm1 cd1 at2 sz2 nm2 0 cd2) (hc : qtx_c T ln at2 = 59) : qRs ln T k (at2 + 1) sz2 nm2 cd2 := by
  obtain ⟨hb, gi, ge, hY, d1, d2, hr, hw⟩ := h
  obtain ⟨lr, l1, l2, l3, l4, l5⟩ := hL
  obtain ⟨y1, y2, y3⟩ := l5 rfl
  have c0 := qtx_c_c T ln at2
  refine ⟨⟨⟨by omega, by omega⟩, by omega, by omega⟩, _, _, y1 gi ge hY, qDep_gi (qDep_mo d1 l2) y2, qDep_ge (qDep_mo d1 l2) y2 (qDep_mo d2 l2) y3, qCr_cat hr l3 l4, fun N => ?_⟩
  have e := l1 N
  rw [hw N, qtx_pg_go (by rw [e.1, e.2]; exact ⟨rfl, hc⟩), e.1]
theorem qRs_end {ln : Int} {T : Nat → Int} {k : Nat} {at1 sz1 nm1 at2 sz2 nm2 : Int} {cd1 cd2 : Nat → Int} (h : qRs ln T (k + 1) at1 sz1 nm1 cd1) (hL : qRl ln (fun N => qtx_ln T ln (qtx_E T ln N 6) at1) at1 sz1 nm1 cd1 at2 sz2 nm2 0 cd2) (hc : ln ≤ at2) : qRt ln T (-1) sz2 nm2 cd2 := by
  obtain ⟨hb, gi, ge, hY, d1, d2, hr, hw⟩ := h
  obtain ⟨lr, l1, l2, l3, l4, l5⟩ := hL
  obtain ⟨y1, y2, y3⟩ := l5 rfl
  have c0 := qtx_c_c T ln at2
  have e : ∀ N, qtx_W T ln N = (qtx_ge (gi N) (qtx_ln T ln (qtx_E T ln N 6) at1).1 (ge N) (qtx_ln T ln (qtx_E T ln N 6) at1).2.1, at2, 0) := fun N => by
    have e := l1 N
    rw [hw N, qtx_pg_st (by rw [e.1, e.2]; omega), e.1, e.2, if_pos ⟨rfl, hc⟩]
  refine Or.inl ⟨rfl, fun N => by rw [e N], ⟨fun N => qtx_gi (gi N) (qtx_ln T ln (qtx_E T ln N 6) at1).1, ?_⟩, ?_, qCr_cat hr l3 l4⟩
  · rw [show (fun N => (qtx_W T ln N).1) = fun N => qtx_ge (gi N) (qtx_ln T ln (qtx_E T ln N 6) at1).1 (ge N) (qtx_ln T ln (qtx_E T ln N 6) at1).2.1 from funext fun N => by rw [e N]]
    exact y1 gi ge hY
  · rw [show (fun N => (qtx_W T ln N).1) = fun N => qtx_ge (gi N) (qtx_ln T ln (qtx_E T ln N 6) at1).1 (ge N) (qtx_ln T ln (qtx_E T ln N 6) at1).2.1 from funext fun N => by rw [e N]]
    exact qDep_ge (qDep_mo d1 l2) y2 (qDep_mo d2 l2) y3
theorem qRs_bad {ln : Int} {T : Nat → Int} {k : Nat} {at1 sz1 nm1 at2 sz2 nm2 sk2 : Int} {cd1 cd2 : Nat → Int} (h : qRs ln T (k + 1) at1 sz1 nm1 cd1) (hL : qRl ln (fun N => qtx_ln T ln (qtx_E T ln N 6) at1) at1 sz1 nm1 cd1 at2 sz2 nm2 sk2 cd2) (hc : sk2 = 1 ∨ (at2 < ln ∧ ¬ qtx_c T ln at2 = 59)) (sz3 nm3 : Int) (cd3 : Nat → Int) : qRt ln T at2 sz3 nm3 cd3 := by
  obtain ⟨hb, gi, ge, hY, d1, d2, hr, hw⟩ := h
  obtain ⟨lr, l1, l2, l3, l4, l5⟩ := hL
  refine Or.inr ⟨by omega, fun N => ?_⟩
  have e := l1 N
  rw [hw N, qtx_pg_st (by rw [e.1, e.2]; omega), e.1, e.2, if_neg (by omega)]
  exact ⟨rfl, rfl⟩
theorem qRt_cg {ln v sz2 nm2 : Int} {T T' cd cd' : Nat → Int} (hT : ∀ j : Nat, (j : Int) < ln → T j = T' j) (hc : ∀ k : Int, 0 ≤ k → k < sz2 → cd' k.toNat = cd k.toNat) (h : qRt ln T v sz2 nm2 cd) : qRt ln T' v sz2 nm2 cd' := by
  have e : ∀ N, qtx_W T' ln N = qtx_W T ln N := fun N => (qtx_W_cg hT N).symm
  rcases h with ⟨h1, h2, ⟨gi, h3⟩, h4, h5⟩ | ⟨h1, h2⟩
  · refine Or.inl ⟨h1, fun N => by rw [e N]; exact h2 N, ⟨gi, ?_⟩, ?_, fun k a b => by rw [hc k a b]; exact h5 k a b⟩
    · rw [show (fun N => (qtx_W T' ln N).1) = fun N => (qtx_W T ln N).1 from funext fun N => by rw [e N]]
      exact qtx_Y_fr h3 hc
    · rw [show (fun N => (qtx_W T' ln N).1) = fun N => (qtx_W T ln N).1 from funext fun N => by rw [e N]]
      exact h4
  · exact Or.inr ⟨h1, fun N => by rw [e N]; exact h2 N⟩
