/-! the same text gone through by the reference -/
def qRes (X : qtx_3) (v a fa : Int) : Prop := (X.2.2 = 0 ∧ v = X.1 ∧ a = X.2.1 ∧ fa = -1) ∨ (X.2.2 = 1 ∧ a = X.2.1 ∧ fa = X.2.1)
def qLI (T : Nat → Int) (n : Int) (sub : Int → qtx_3) (l : Int) (G : qtx_3) (u a fa : Int) : Prop := (fa = -1 ∧ ∃ k : Nat, G = qtx_lp T n sub l k (u, a, 0) ∧ n - a ≤ (k : Int)) ∨ (0 ≤ fa ∧ G.2.2 = 1 ∧ G.2.1 = a ∧ fa = a)
theorem qRes_eq {X : qtx_3} {v a : Int} (h : qRes X v a (-1)) (ha : 0 ≤ a) : X = (v, a, 0) := by
  rcases h with ⟨h1, h2, h3, _⟩ | ⟨_, h2, h3⟩
  · rw [h2, h3, ← h1]
  · exact False.elim (by omega)
theorem qRes_f {X : qtx_3} {v a fa : Int} (h : qRes X v a fa) (hf : 0 ≤ fa) : X.2.2 = 1 ∧ X.2.1 = a ∧ fa = a := by
  rcases h with ⟨_, _, _, h4⟩ | ⟨h1, h2, h3⟩
  · exact False.elim (by omega)
  · exact ⟨h1, h2.symm, by omega⟩
theorem qRes_ok {X : qtx_3} {v a : Int} (h : X = (v, a, 0)) : qRes X v a (-1) := by
  rw [h]
  exact Or.inl ⟨rfl, rfl, rfl, rfl⟩
theorem qRes_bad {X : qtx_3} {a : Int} (v : Int) (h : X.2.2 = 1 ∧ X.2.1 = a) : qRes X v a a := Or.inr ⟨h.1, h.2.symm, h.2.symm⟩
theorem qRes_fa {X : qtx_3} {v a fa : Int} (h : qRes X v a fa) (ha : 0 ≤ a) : fa = -1 ∨ (0 ≤ fa ∧ fa = a) := by
  rcases h with ⟨_, _, _, h4⟩ | ⟨_, h2, h3⟩
  · exact Or.inl h4
  · exact Or.inr ⟨by omega, by omega⟩
theorem qLI_0 {T : Nat → Int} {n : Int} {sub : Int → qtx_3} {l a0 v a fa : Int} (h : qRes (sub a0) v a fa) (ha : 0 ≤ a ∧ n - a ≤ 120) : qLI T n sub l (qtx_lp T n sub l 120 (sub a0)) v a fa := by
  rcases qRes_fa h ha.1 with rfl | ⟨f1, f2⟩
  · refine Or.inl ⟨rfl, 120, ?_, by omega⟩
    rw [qRes_eq h ha.1]
  · have hf := qRes_f h f1
    refine Or.inr ⟨f1, ?_⟩
    rw [qtx_lp_st (by rw [hf.1]; omega)]
    exact hf
theorem qLI_s {T : Nat → Int} {n : Int} {sub : Int → qtx_3} {l u a w a2 fa2 u2 : Int} {G : qtx_3} (h : qLI T n sub l G u a (-1)) (ha : 0 ≤ a) (hl0 : 0 ≤ l) (hl : qtx_lo (qtx_c T n a) = l) (hw : qRes (sub (a + 1)) w a2 fa2) (hm : a + 1 ≤ a2) (hu : fa2 = -1 → u2 = qtx_ap (qtx_c T n a) u w) : qLI T n sub l G u2 a2 fa2 := by
  have hc := qtx_c_c T n a
  have hq := qtx_lo_c (qtx_c T n a)
  rcases h with ⟨_, k, e, hk⟩ | ⟨h0, _⟩
  · obtain ⟨k, rfl⟩ : ∃ m, k = m + 1 := ⟨k - 1, by omega⟩
    have e1 : G = qtx_lp T n sub l k (qtx_cm (qtx_c T n a) (u, a, 0) (sub (a + 1))) := e.trans (qtx_lp_go ⟨rfl, hl⟩)
    rcases qRes_fa hw (by omega) with rfl | ⟨f1, f2⟩
    · refine Or.inl ⟨rfl, k, ?_, by omega⟩
      rw [e1, qRes_eq hw (by omega), hu rfl]
      rfl
    · have hf := qRes_f hw f1
      have e2 : G = qtx_cm (qtx_c T n a) (u, a, 0) (sub (a + 1)) := e1.trans (qtx_lp_st (fun z => by
        have z1 : (sub (a + 1)).2.2 = 0 := z.1
        omega))
      rw [e2]
      exact Or.inr ⟨f1, hf⟩
  · exact absurd h0 (by decide)
theorem qLI_e {T : Nat → Int} {n : Int} {sub : Int → qtx_3} {l u a fa : Int} {G : qtx_3} (h : qLI T n sub l G u a fa) (he : fa = -1 → ¬ qtx_lo (qtx_c T n a) = l) : qRes G u a fa := by
  rcases h with ⟨h1, k, e, _⟩ | ⟨h1, h2, h3, h4⟩
  · have e2 : G = (u, a, 0) := e.trans (qtx_lp_st (fun z => he h1 z.2))
    rw [h1]
    exact qRes_ok e2
  · rw [h4]
    exact qRes_bad u ⟨h2, h3⟩
theorem qC1_e {T : Nat → Int} {n : Int} {sub : Int → qtx_3} {l a0 v a fa : Int} (h : qRes (sub a0) v a fa) (ha : 0 ≤ a) (he : fa = -1 → ¬ qtx_lo (qtx_c T n a) = l) : qRes (qtx_lp T n sub l 1 (sub a0)) v a fa := by
  rcases qRes_fa h ha with rfl | ⟨f1, f2⟩
  · have e := qRes_eq h ha
    rw [e]
    exact qRes_ok (qtx_lp_st (fun z => he rfl z.2))
  · have hf := qRes_f h f1
    rw [qtx_lp_st (by rw [hf.1]; omega)]
    exact h
theorem qC1_s {T : Nat → Int} {n : Int} {sub : Int → qtx_3} {l a0 v a w a2 fa2 u2 : Int} (h : qRes (sub a0) v a (-1)) (ha : 0 ≤ a) (hl : qtx_lo (qtx_c T n a) = l) (hw : qRes (sub (a + 1)) w a2 fa2) (hm : a + 1 ≤ a2) (hu : fa2 = -1 → u2 = qtx_ap (qtx_c T n a) v w) : qRes (qtx_lp T n sub l 1 (sub a0)) u2 a2 fa2 := by
  have e1 : qtx_lp T n sub l 1 (sub a0) = qtx_cm (qtx_c T n a) (v, a, 0) (sub (a + 1)) := by
    rw [qRes_eq h ha]
    exact qtx_lp_go ⟨rfl, hl⟩
  rw [e1]
  rcases qRes_fa hw (by omega) with rfl | ⟨f1, f2⟩
  · rw [qRes_eq hw (by omega), hu rfl]
    exact qRes_ok rfl
  · have hf := qRes_f hw f1
    rw [hf.2.2]
    exact qRes_bad u2 ⟨hf.1, hf.2.1⟩
theorem qtx_can {v y : Int} (h : qz v = qz y) (hv : -2147483648 ≤ v ∧ v ≤ 2147483647) : v = (qz y).toInt := by rw [← h, qz_ti hv]
/-- operands -/
theorem qO_b {T : Nat → Int} {n : Int} {N : Nat → Int} {r : Nat} {a : Int} (v : Int) (h : (r = 0 ∧ (qtx_c T n a = 40 ∨ qtx_c T n a = 33 ∨ qtx_c T n a = 45)) ∨ (¬ qtx_c T n a = 40 ∧ ¬ qtx_c T n a = 33 ∧ ¬ qtx_c T n a = 45 ∧ qtx_nm (qtx_c T n a) < 0 ∧ ¬ (48 ≤ qtx_c T n a ∧ qtx_c T n a ≤ 57))) : qRes (qtx_on T n N r a) v a a := by
  have hn := qtx_nm_c (qtx_c T n a)
  refine qRes_bad v ?_
  rw [qtx_on_o (by omega), qtx_oo_b (by omega) (by omega)]
  exact ⟨rfl, rfl⟩
theorem qO_n {T : Nat → Int} {n : Int} {N : Nat → Int} {r : Nat} {a m v : Int} (hm : qtx_nm (qtx_c T n a) = m) (h0 : 0 ≤ m) (hv : v = N m.toNat) : qRes (qtx_on T n N r a) v (a + 1) (-1) := by
  have hn := qtx_nm_c (qtx_c T n a)
  refine qRes_ok ?_
  rw [qtx_on_o (by omega), qtx_oo_n (by omega), hm, hv]
theorem qO_d {T : Nat → Int} {n : Int} {N : Nat → Int} {r : Nat} {a v a2 : Int} (h : 48 ≤ qtx_c T n a ∧ qtx_c T n a ≤ 57) (e : qtx_num T n 4 0 a = (v, a2)) : qRes (qtx_on T n N r a) v a2 (-1) := by
  refine qRes_ok ?_
  rw [qtx_on_o (by omega), qtx_oo_d h, e]
theorem qO_u {T : Nat → Int} {n : Int} {N : Nat → Int} {r : Nat} {a c w a2 fa v : Int} (hr : 0 < r) (hc : qtx_c T n a = c) (hc2 : c = 33 ∨ c = 45) (hw : qRes (qtx_on T n N (r - 1) (a + 1)) w a2 fa) (ha : 0 ≤ a2) (hv : fa = -1 → v = qtx_ng c w) : qRes (qtx_on T n N r a) v a2 fa := by
  rw [qtx_on_u hr hc hc2]
  rcases qRes_fa hw ha with rfl | ⟨f1, f2⟩
  · rw [qRes_eq hw ha, hv rfl]
    exact qRes_ok rfl
  · have hf := qRes_f hw f1
    rw [hf.2.2]
    exact qRes_bad v ⟨hf.1, hf.2.1⟩
theorem qO_p {T : Nat → Int} {n : Int} {N : Nat → Int} {r : Nat} {a w a2 fa a3 fa3 v : Int} (hr : 0 < r) (hc : qtx_c T n a = 40) (hw : qRes (qtx_E T n N (r - 1) (a + 1)) w a2 fa) (ha : 0 ≤ a2) (h : (fa = -1 ∧ qtx_c T n a2 = 41 ∧ a3 = a2 + 1 ∧ fa3 = -1 ∧ v = w) ∨ (¬ (fa = -1 ∧ qtx_c T n a2 = 41) ∧ a3 = a2 ∧ fa3 = a2)) : qRes (qtx_on T n N r a) v a3 fa3 := by
  rw [qtx_on_p hr hc]
  rcases h with ⟨rfl, h2, rfl, rfl, rfl⟩ | ⟨h1, h2, h3⟩
  · rw [qRes_eq hw ha]
    exact qRes_ok (if_pos ⟨rfl, h2⟩)
  · rw [h2, h3]
    refine qRes_bad v ?_
    have e : qtx_pc T n (qtx_E T n N (r - 1) (a + 1)) = (0, a2, 1) := by
      have ea : (qtx_E T n N (r - 1) (a + 1)).2.1 = a2 := by
        rcases hw with ⟨_, _, h3, _⟩ | ⟨_, h3, _⟩ <;> exact h3.symm
      unfold qtx_pc
      rw [ea, if_neg]
      intro z
      rcases qRes_fa hw ha with f | ⟨f1, f2⟩
      · exact h1 ⟨f, z.2⟩
      · have hf := qRes_f hw f1
        omega
    rw [e]
    exact ⟨rfl, rfl⟩
/-- lines, the whole text -/
def qReL (L : Int × qtx_3) (h v a fa : Int) : Prop := (L.2.2.2 = 0 ∧ fa = -1 ∧ a = L.2.2.1 ∧ h = L.1 ∧ v = L.2.1) ∨ (L.2.2.2 = 1 ∧ a = L.2.2.1 ∧ fa = L.2.2.1)
theorem qL_1 {T : Nat → Int} {n : Int} {E : Int → qtx_3} {a0 v a fa : Int} (h : qRes (E a0) v a fa) (ha : 0 ≤ a) (hc : ¬ (fa = -1 ∧ qtx_c T n a = 63)) : qReL (qtx_ln T n E a0) 1 v a fa := by
  have e : qtx_ln T n E a0 = (1, E a0) := by
    have ea : (E a0).2.1 = a := by rcases h with ⟨_, _, h3, _⟩ | ⟨_, h3, _⟩ <;> exact h3.symm
    unfold qtx_ln
    rw [ea, if_neg]
    intro z
    rcases qRes_fa h ha with f | ⟨f1, f2⟩
    · exact hc ⟨f, z.2⟩
    · have hf := qRes_f h f1
      omega
  rw [e]
  rcases h with ⟨h1, h2, h3, h4⟩ | ⟨h1, h2, h3⟩
  · exact Or.inl ⟨h1, h4, h3, rfl, h2⟩
  · exact Or.inr ⟨h1, h2, h3⟩
theorem qL_2 {T : Nat → Int} {n : Int} {E : Int → qtx_3} {a0 v1 a1 v a fa h : Int} (h1 : qRes (E a0) v1 a1 (-1)) (ha1 : 0 ≤ a1) (hc : qtx_c T n a1 = 63) (h2 : qRes (E (a1 + 1)) v a fa) (hh : (v1 = 0 ∧ h = 0) ∨ (¬ v1 = 0 ∧ h = 1)) : qReL (qtx_ln T n E a0) h v a fa := by
  have e : qtx_ln T n E a0 = ((if v1 = 0 then 0 else 1), E (a1 + 1)) := by
    unfold qtx_ln
    rw [qRes_eq h1 ha1]
    exact if_pos ⟨rfl, hc⟩
  have e2 : (if v1 = 0 then (0 : Int) else 1) = h := by
    rcases hh with ⟨b1, b2⟩ | ⟨b1, b2⟩
    · rw [if_pos b1, b2]
    · rw [if_neg b1, b2]
  rw [e, e2]
  rcases h2 with ⟨g1, g2, g3, g4⟩ | ⟨g1, g2, g3⟩
  · exact Or.inl ⟨g1, g4, g3, rfl, g2⟩
  · exact Or.inr ⟨g1, g2, g3⟩
def qWI (T : Nat → Int) (n : Int) (E : Int → qtx_3) (W : qtx_3) (gi ge more a fa : Int) : Prop := (more = 1 ∧ fa = -1 ∧ ∃ k : Nat, W = qtx_pg T n E k a gi ge ∧ n - a < (k : Int)) ∨ (more = 0 ∧ fa = -1 ∧ W = (ge, a, if n ≤ a then 0 else 1)) ∨ (more = 0 ∧ 0 ≤ fa ∧ W.2.2 = 1 ∧ W.2.1 = fa)
theorem qWI_s {T : Nat → Int} {n : Int} {E : Int → qtx_3} {W : qtx_3} {gi ge a0 h v a fa gi2 ge2 more a3 : Int} (hW : qWI T n E W gi ge 1 a0 (-1)) (h0 : 0 ≤ a0 ∧ a0 ≤ n) (hL : qReL (qtx_ln T n E a0) h v a fa) (ha : a0 ≤ a) (hf : fa = -1 ∨ fa = a) (hg : fa = -1 → gi2 = qtx_gi gi h ∧ ge2 = qtx_ge gi h ge v) (hm : (more = 1 ∧ fa = -1 ∧ qtx_c T n a = 59 ∧ a3 = a + 1) ∨ (more = 0 ∧ ¬ (fa = -1 ∧ qtx_c T n a = 59) ∧ a3 = a)) : qWI T n E W gi2 ge2 more a3 fa := by
  rcases hW with ⟨_, _, k, e, hk⟩ | ⟨z, _⟩ | ⟨z, _⟩
  · obtain ⟨k, rfl⟩ : ∃ m, k = m + 1 := ⟨k - 1, by omega⟩
    rcases hL with ⟨l1, l2, l3, l4, l5⟩ | ⟨l1, l2, l3⟩
    · have hgg := hg l2
      rcases hm with ⟨m1, m2, m3, m4⟩ | ⟨m1, m2, m3⟩
      · have e1 := e.trans (qtx_pg_go ⟨l1, by rw [← l3]; exact m3⟩)
        refine Or.inl ⟨m1, l2, k, ?_, by omega⟩
        rw [e1, hgg.1, hgg.2, m4, l3, l4, l5]
      · have e1 := e.trans (qtx_pg_st (fun z => m2 ⟨l2, by rw [l3]; exact z.2⟩))
        refine Or.inr (Or.inl ⟨m1, l2, ?_⟩)
        rw [e1, hgg.2, m3, l1, ← l3, ← l4, ← l5]
        by_cases c : n ≤ a
        · rw [if_pos ⟨rfl, c⟩, if_pos c]
        · rw [if_neg (fun z => c z.2), if_neg c]
    · have hm0 : more = 0 := by omega
      have e1 := e.trans (qtx_pg_st (fun z => by omega))
      refine Or.inr (Or.inr ⟨hm0, by omega, ?_⟩)
      rw [e1, l1, if_neg (by omega)]
      exact ⟨rfl, l3.symm⟩
  · exact absurd z (by decide)
  · exact absurd z (by decide)
/-- what the whole of it leaves: its number, or where it fails -/
def qReW (W : qtx_3) (v fa : Int) : Prop := (W.2.2 = 0 ∧ v = W.1 ∧ fa = -1) ∨ (W.2.2 = 1 ∧ fa = W.2.1 ∧ 0 ≤ fa)
theorem qWI_e1 {T : Nat → Int} {n : Int} {E : Int → qtx_3} {W : qtx_3} {gi ge a : Int} (v : Int) (h : qWI T n E W gi ge 0 a (-1)) (ha : 0 ≤ a ∧ a < n) : qReW W v a := by
  rcases h with ⟨z, _⟩ | ⟨_, _, e⟩ | ⟨_, z, _⟩
  · exact absurd z (by decide)
  · rw [e, if_neg (by omega)]
    exact Or.inr ⟨rfl, rfl, ha.1⟩
  · exact absurd z (by decide)
theorem qWI_e2 {T : Nat → Int} {n : Int} {E : Int → qtx_3} {W : qtx_3} {gi ge a fa : Int} (h : qWI T n E W gi ge 0 a fa) (ha : ¬ (fa = -1 ∧ a < n)) : qReW W ge fa := by
  rcases h with ⟨z, _⟩ | ⟨_, f, e⟩ | ⟨_, f, e1, e2⟩
  · exact absurd z (by decide)
  · rw [e, if_pos (by omega)]
    exact Or.inl ⟨rfl, rfl, f⟩
  · exact Or.inr ⟨e1, e2.symm, f⟩
