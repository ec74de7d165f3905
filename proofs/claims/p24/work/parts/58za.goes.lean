section
noncomputable def qHr (_ α : Nat → Nat → Int) (h b p q : Int) : Nat → Int := qhG b (qhF (qsh (α 87) 192) (α 102) (α 103) (qun (α 104) (α 105) (qsh (α 87) 192)) (qcw (α 87)) (qll (α 91)) p q h)
theorem qHr_fr {S : List (Nat × Nat)} {R : List Nat} {σ α σ' α' : Nat → Nat → Int} (hG : qFr S R σ α σ' α') (hr : [87, 91, 102, 103, 104, 105].all (fun x => !R.contains x) = true) : qHr σ' α' = qHr σ α := by
  have er : ∀ a, a ∈ [87, 91, 102, 103, 104, 105] → α' a = α a := fun a hm => hG.2 a (fun hn => by
    have h1 := List.all_eq_true.mp hr a hm
    rw [List.contains_iff_mem.mpr hn] at h1
    exact absurd h1 (by decide))
  unfold qHr
  rw [er 87 (by decide), er 91 (by decide), er 102 (by decide), er 103 (by decide), er 104 (by decide), er 105 (by decide)]
noncomputable def qBm (_ α : Nat → Nat → Int) (p : Int) : Nat → Int := qbF (α 102) (qcw (α 87)) p
theorem qBm_fr {S : List (Nat × Nat)} {R : List Nat} {σ α σ' α' : Nat → Nat → Int} (hG : qFr S R σ α σ' α') (hr : [87, 102].all (fun x => !R.contains x) = true) : qBm σ' α' = qBm σ α := by
  have er : ∀ a, a ∈ [87, 102] → α' a = α a := fun a hm => hG.2 a (fun hn => by
    have h1 := List.all_eq_true.mp hr a hm
    rw [List.contains_iff_mem.mpr hn] at h1
    exact absurd h1 (by decide))
  unfold qBm
  rw [er 87 (by decide), er 102 (by decide)]
noncomputable def qWr (σ α : Nat → Nat → Int) (g0 g1 : (Nat → Int) → Int) (h : Int) (u b p q st t : Int) : Int := if u = 0 then g0 (qNVr σ α b 0 p q st t h) else g1 (qNVr σ α b 0 p q st t h)
/-- the state of a telling, as the reference keeps it -/
def qTr (σ α : Nat → Nat → Int) (st : Int) (s : qTS) : Prop := ((s.1.length : Int) = σ 86 50 ∧ ∀ (i : Nat) (h : i < s.1.length), α 115 i = s.1[i] / 100 ∧ α 116 i = s.1[i] % 100 ∧ s.1[i] % 100 < σ 86 6) ∧ ql_and st (ql_xor (σ 86 10) (-1)) = s.2.1
theorem qTr_0 {σ α : Nat → Nat → Int} {st de : Int} (h : σ 86 50 = 0) (hd : σ 86 10 = de) : qTr σ α st ([], ql_and st (ql_xor de (-1)), 0, []) := by
  refine ⟨⟨by rw [h]; rfl, fun i hi => absurd hi (Nat.not_lt_zero i)⟩, by rw [hd]⟩
theorem qTr_on {σ α : Nat → Nat → Int} {st : Int} {s : qTS} (h : qTr σ α st s) : ∀ i : Nat, (i : Int) < σ 86 50 → α 116 i < σ 86 6 := fun i hi => by
  have h1 := h.1.1
  have h2 := h.1.2 i (by omega)
  omega
theorem qTr_c {σ α σ' α' : Nat → Nat → Int} {st : Int} {s : qTS} (e1 : α' 115 = α 115) (e2 : α' 116 = α 116) (e3 : σ' 86 50 = σ 86 50) (e4 : σ' 86 6 = σ 86 6) (e5 : σ' 86 10 = σ 86 10) (h : qTr σ α st s) : qTr σ' α' st s := by
  unfold qTr
  rw [e1, e2, e3, e4, e5]
  exact h
theorem qand_nn (st d x : Int) : ql_and st (ql_xor (ql_or d x) (-1)) = ql_and (ql_and st (ql_xor d (-1))) (ql_xor x (-1)) := by
  refine qbit_ext (ql_and_r _ _) (ql_and_r _ _) (fun i hi hi2 => ?_)
  have a1 := qband_c st (ql_xor (ql_or d x) (-1)) i
  have a2 := qband_c (ql_and st (ql_xor d (-1))) (ql_xor x (-1)) i
  have a3 := qband_c st (ql_xor d (-1)) i
  have a4 := qbit_not (ql_or d x) ⟨hi, hi2⟩
  have a5 := qbit_not d ⟨hi, hi2⟩
  have a6 := qbit_not x ⟨hi, hi2⟩
  have a7 := qbor_c d x i
  have a8 := qbit_r d i
  have a9 := qbit_r x i
  omega
theorem qTr_land {σ α σ' α' : Nat → Nat → Int} {st x1 x2 : Int} {s : qTS} {H : Int → Int → Int → Nat → Int} {B : Int → Nat → Int} {n : Nat} (hx : (0 ≤ x1 ∧ x1 ≤ 31) ∧ 0 ≤ x2 ∧ x2 ≤ 31) (h6 : x2 < σ 86 6) (hT : qTr σ α st s) (e1 : α' 115 = qzu (α 115) (σ 86 50).toNat x1) (e2 : α' 116 = qzu (α 116) (σ 86 50).toNat x2) (e3 : σ' 86 50 = σ 86 50 + 1) (e4 : σ' 86 6 = σ 86 6) (e5 : σ' 86 10 = ql_or (σ 86 10) (ql_shl 1 x2)) : qTr σ' α' st (qland H B n s (100 * x1 + x2)) := by
  obtain ⟨⟨h1, h2⟩, h3⟩ := hT
  have d1 : (100 * x1 + x2) / 100 = x1 := by omega
  have d2 : (100 * x1 + x2) % 100 = x2 := by omega
  have hlen : (s.1 ++ [100 * x1 + x2]).length = s.1.length + 1 := List.length_append
  refine ⟨⟨?_, fun i hi => ?_⟩, ?_⟩
  · show ((s.1 ++ [100 * x1 + x2]).length : Int) = σ' 86 50
    omega
  · have hi2 : i < (s.1 ++ [100 * x1 + x2]).length := hi
    show α' 115 i = (s.1 ++ [100 * x1 + x2])[i]'hi2 / 100 ∧ α' 116 i = (s.1 ++ [100 * x1 + x2])[i]'hi2 % 100 ∧ (s.1 ++ [100 * x1 + x2])[i]'hi2 % 100 < σ' 86 6
    rw [e1, e2, e4]
    by_cases c : i < s.1.length
    · have e : (s.1 ++ [100 * x1 + x2])[i]'hi2 = s.1[i] := List.getElem_append_left c
      have g1 : qzu (α 115) (σ 86 50).toNat x1 i = α 115 i := if_neg (by omega)
      have g2 : qzu (α 116) (σ 86 50).toNat x2 i = α 116 i := if_neg (by omega)
      rw [e, g1, g2]
      exact h2 i c
    · have e : (s.1 ++ [100 * x1 + x2])[i]'hi2 = 100 * x1 + x2 := by
        rw [List.getElem_append_right (show s.1.length ≤ i by omega)]
        simp
      have g1 : qzu (α 115) (σ 86 50).toNat x1 i = x1 := if_pos (by omega)
      have g2 : qzu (α 116) (σ 86 50).toNat x2 i = x2 := if_pos (by omega)
      rw [e, g1, g2, d1, d2]
      exact ⟨rfl, rfl, h6⟩
  · show ql_and st (ql_xor (σ' 86 10) (-1)) = ql_and s.2.1 (ql_xor (ql_shl 1 ((100 * x1 + x2) % 100)) (-1))
    rw [e5, d2, ← h3]
    exact qand_nn _ _ _
theorem qor_as (a b c : Int) : ql_or (ql_or a b) c = ql_or a (ql_or b c) := by
  refine qbit_ext (ql_or_r _ _) (ql_or_r _ _) (fun i _ _ => ?_)
  have a1 := qbor_c (ql_or a b) c i
  have a2 := qbor_c a b i
  have a3 := qbor_c a (ql_or b c) i
  have a4 := qbor_c b c i
  omega
theorem qbl_no {b w i : Int} {P : Nat → Int} (hi : 0 ≤ i) (hP : ¬ P i.toNat = 1) (h : w = ql_or b (qbs P i.toNat)) : w = ql_or b (qbs P (i + 1).toNat) := by
  have h1 := qbs_s P hi
  rcases h1 with h1 | h1
  · exact absurd h1.1 hP
  · rw [h1.2]
    exact h
theorem qbl_yes {b w v sh i : Int} {P : Nat → Int} (hi : 0 ≤ i) (hP : P i.toNat = 1) (hs : sh = ql_shl 1 i) (hv : v = ql_or w sh) (h : w = ql_or b (qbs P i.toNat)) : v = ql_or b (qbs P (i + 1).toNat) := by
  have h1 := qbs_s P hi
  rcases h1 with h1 | h1
  · rw [h1.2, hv, hs, h]
    exact qor_as _ _ _
  · exact absurd hP h1.1
theorem qbl_0 {b : Int} {P : Nat → Int} (hb : -9223372036854775808 ≤ b ∧ b ≤ 9223372036854775807) : b = ql_or b (qbs P (0 : Int).toNat) := by
  refine qbit_ext hb (ql_or_r _ _) (fun i _ _ => ?_)
  have a1 := qbor_c b (qbs P (0 : Int).toNat) i
  have a2 : qbit (qbs P (0 : Int).toNat) i = 0 := qbit_0 i
  have a3 := qbit_r b i
  omega
theorem qhG_or {b w i : Int} {P f : Nat → Int} (hi : 0 ≤ i ∧ i ≤ 63) (h : w = ql_or b (qbs P i.toNat)) : qhG w f i.toNat = qhG b f i.toNat := by
  have a1 := qhG_c w f i.toNat
  have a2 := qhG_c b f i.toNat
  have a3 := qbor_c b (qbs P i.toNat) i
  have a4 := qbs_c P hi.1 (n := i.toNat) (by omega)
  rw [show ((i.toNat : Nat) : Int) = i by omega] at a1 a2 a4
  rw [← h] at a3
  omega
theorem qNVr_t {σ α : Nat → Nat → Int} (h41 : σ 86 41 = 0) (h6 : σ 86 6 ≤ 32) (b de p q st th h : Int) : qNVr σ α b de p q st th h = qNVr σ α b 0 p q st (ql_and th (ql_xor de (-1))) h := by
  have e : qsm (qshD (α 91) p th de (σ 86 41)) (σ 86 6 : Int).toNat = qsm (qshD (α 91) p (ql_and th (ql_xor de (-1))) 0 (σ 86 41)) (σ 86 6 : Int).toNat := by
    refine qsm_eq _ (fun k hk => ?_)
    have c1 := qshD_c (α 91) p th de (σ 86 41) (i := (k : Int)) (by omega)
    have c2 := qshD_c (α 91) p (ql_and th (ql_xor de (-1))) 0 (σ 86 41) (i := (k : Int)) (by omega)
    have c3 := qband_c th (ql_xor de (-1)) (k : Int)
    have c4 := qbit_not de (i := (k : Int)) ⟨by omega, by omega⟩
    have c5 := qbit_r de (k : Int)
    have c6 := qbit_0 (k : Int)
    rw [Int.toNat_natCast] at c1 c2
    rw [h41] at c1 c2 ⊢
    omega
  unfold qNVr
  rw [e]
/-- whom it falls to next, as a telling has it -/
theorem qtr_v {σ α σn αn : Nat → Nat → Int} {s : qTS} {st hh N : Int} (e : qNVr σn αn = qNVr σ α) (h41 : σ 86 41 = 0) (h6 : σ 86 6 ≤ 32) (hT : qTr σn αn st s) (hb : σn 86 29 = s.2.2.1) : ∀ p q x : Int, 0 ≤ p → p < N → 0 ≤ q → q < N → qNVr σn αn (σn 86 29) (σn 86 10) p q x st hh = qNVr σ α s.2.2.1 0 p q x s.2.1 hh := fun p q x _ _ _ _ => by
  rw [e, qNVr_t h41 h6, hT.2, hb]
theorem qtr_n {σ α σn αn : Nat → Nat → Int} {s : qTS} {g0 g1 : (Nat → Int) → Int} {st hh v N : Int} (hT : qTr σn αn st s) (hV : ∀ p q x : Int, 0 ≤ p → p < N → 0 ≤ q → q < N → qNVr σn αn (σn 86 29) (σn 86 10) p q x st hh = qNVr σ α s.2.2.1 0 p q x s.2.1 hh) (hN : N ≤ 32)
    (h : (0 ≤ v ∧ qFst (fun r t : Int => ¬ t = r ∧ qbit (ql_and st (ql_xor (σn 86 10) (-1))) r = 1 ∧ qbit (ql_and st (ql_xor (σn 86 10) (-1))) t = 1 ∧ ∃ i : Nat, (i : Int) < σn 86 50 ∧ (αn 115 i = t ∧ ¬ g1 (qNVr σn αn (σn 86 29) (σn 86 10) r t (αn 116 i) st hh) = 0)) N v) ∨
      (qFst (fun r t : Int => ¬ t = r ∧ qbit (ql_and st (ql_xor (σn 86 10) (-1))) r = 1 ∧ qbit (ql_and st (ql_xor (σn 86 10) (-1))) t = 1 ∧ ∃ i : Nat, (i : Int) < σn 86 50 ∧ (αn 115 i = t ∧ ¬ g1 (qNVr σn αn (σn 86 29) (σn 86 10) r t (αn 116 i) st hh) = 0)) N (-1) ∧ qFst (fun p q : Int => ¬ q = p ∧ qbit (ql_and st (ql_xor (σn 86 10) (-1))) p = 1 ∧ qbit (ql_and st (ql_xor (σn 86 10) (-1))) q = 1 ∧ ¬ g0 (qNVr σn αn (σn 86 29) (σn 86 10) p q (-1) st hh) = 0) N v)) : qnext (qWr σ α g0 g1 hh) N s = v := by
  obtain ⟨⟨h1, h2⟩, h3⟩ := hT
  have hW1 : ∀ p q x : Int, qWr σ α g0 g1 hh 1 s.2.2.1 p q x s.2.1 = g1 (qNVr σ α s.2.2.1 0 p q x s.2.1 hh) := fun p q x => if_neg (by decide)
  have hW0 : ∀ p q x : Int, qWr σ α g0 g1 hh 0 s.2.2.1 p q x s.2.1 = g0 (qNVr σ α s.2.2.1 0 p q x s.2.1 hh) := fun p q x => if_pos rfl
  have E1 : ∀ w : Int, qFst (fun r t : Int => ¬ t = r ∧ qbit (ql_and st (ql_xor (σn 86 10) (-1))) r = 1 ∧ qbit (ql_and st (ql_xor (σn 86 10) (-1))) t = 1 ∧ ∃ i : Nat, (i : Int) < σn 86 50 ∧ (αn 115 i = t ∧ ¬ g1 (qNVr σn αn (σn 86 29) (σn 86 10) r t (αn 116 i) st hh) = 0)) N w → qfst (qkC1 (qWr σ α g0 g1 hh) s) N = w := fun w hw => by
    refine qfst_of hN (qFst_eq (fun r t k1 k2 k3 k4 => ?_) hw)
    constructor
    · rintro ⟨c1, c2, c3, i, hi, c4, c5⟩
      have hi2 : i < s.1.length := by omega
      have h4 := h2 i hi2
      rw [h3] at c2 c3
      rw [hV _ _ _ k1 k2 k3 k4, h4.2.1] at c5
      refine ⟨fun z => c1 z.symm, c2, c3, i, hi2, by rw [← h4.1]; exact c4, ?_⟩
      rw [hW1]
      exact c5
    · rintro ⟨c1, c2, c3, i, hi2, c4, c5⟩
      have h4 := h2 i hi2
      rw [hW1] at c5
      refine ⟨fun z => c1 z.symm, by rw [h3]; exact c2, by rw [h3]; exact c3, i, by omega, by rw [h4.1]; exact c4, ?_⟩
      rw [hV _ _ _ k1 k2 k3 k4, h4.2.1]
      exact c5
  have E0 : ∀ w : Int, qFst (fun p q : Int => ¬ q = p ∧ qbit (ql_and st (ql_xor (σn 86 10) (-1))) p = 1 ∧ qbit (ql_and st (ql_xor (σn 86 10) (-1))) q = 1 ∧ ¬ g0 (qNVr σn αn (σn 86 29) (σn 86 10) p q (-1) st hh) = 0) N w → qfst (qkC0 (qWr σ α g0 g1 hh) s) N = w := fun w hw => by
    refine qfst_of hN (qFst_eq (fun p q k1 k2 k3 k4 => ?_) hw)
    unfold qkC0
    rw [hW0, hV _ _ _ k1 k2 k3 k4, h3]
    exact ⟨fun c => ⟨fun z => c.1 z.symm, c.2⟩, fun c => ⟨fun z => c.1 z.symm, c.2⟩⟩
  rcases h with ⟨a, b⟩ | ⟨a, b⟩
  · exact qnext_1 (E1 v b) (by omega)
  · exact qnext_0 (E1 (-1) a) (by decide) (E0 v b)
theorem qtr_r {σn αn : Nat → Nat → Int} {g0 g1 : (Nat → Int) → Int} {st hh v N : Int} (hv : -1 ≤ v)
    (h : (0 ≤ v ∧ qFst (fun r t : Int => ¬ t = r ∧ qbit (ql_and st (ql_xor (σn 86 10) (-1))) r = 1 ∧ qbit (ql_and st (ql_xor (σn 86 10) (-1))) t = 1 ∧ ∃ i : Nat, (i : Int) < σn 86 50 ∧ (αn 115 i = t ∧ ¬ g1 (qNVr σn αn (σn 86 29) (σn 86 10) r t (αn 116 i) st hh) = 0)) N v) ∨
      (qFst (fun r t : Int => ¬ t = r ∧ qbit (ql_and st (ql_xor (σn 86 10) (-1))) r = 1 ∧ qbit (ql_and st (ql_xor (σn 86 10) (-1))) t = 1 ∧ ∃ i : Nat, (i : Int) < σn 86 50 ∧ (αn 115 i = t ∧ ¬ g1 (qNVr σn αn (σn 86 29) (σn 86 10) r t (αn 116 i) st hh) = 0)) N (-1) ∧ qFst (fun p q : Int => ¬ q = p ∧ qbit (ql_and st (ql_xor (σn 86 10) (-1))) p = 1 ∧ qbit (ql_and st (ql_xor (σn 86 10) (-1))) q = 1 ∧ ¬ g0 (qNVr σn αn (σn 86 29) (σn 86 10) p q (-1) st hh) = 0) N v)) : v = -1 ∨ (0 ≤ v ∧ v / 100 < N ∧ v % 100 < N ∧ ¬ v / 100 = v % 100) := by
  rcases h with ⟨a, b⟩ | ⟨_, b⟩ <;> rcases b with b | ⟨b1, b2, _⟩
  · exact Or.inl b.1
  · exact Or.inr ⟨b1.1, b1.2.1, b1.2.2, fun z => b2.1 z.symm⟩
  · exact Or.inl b.1
  · exact Or.inr ⟨b1.1, b1.2.1, b1.2.2, fun z => b2.1 z.symm⟩
theorem qgo_a {H : Int → Int → Int → Nat → Int} {B : Int → Nat → Int} {m : Nat} {W : Int → Int → Int → Int → Int → Int → Int} {N c : Int} {s X : qTS} (hc : 30 ≤ c) (h : qtell H B m W N (30 - c).toNat s = X) : s = X := by
  rw [show (30 - c).toNat = 0 by omega] at h
  exact h
theorem qgo_b {H : Int → Int → Int → Nat → Int} {B : Int → Nat → Int} {m : Nat} {W : Int → Int → Int → Int → Int → Int → Int} {N c c2 v : Int} {s X : qTS} (hc : c ≤ 29) (hc2 : c2 = c + 1) (hq : qnext W N s = v) (h : qtell H B m W N (30 - c).toNat s = X) : (v < 0 ∧ s = X) ∨ (0 ≤ v ∧ qtell H B m W N (30 - c2).toNat (qland H B m s v) = X) := by
  rw [show (30 - c).toNat = (30 - c2).toNat + 1 by omega] at h
  rw [← h]
  by_cases h0 : v < 0
  · refine Or.inl ⟨h0, ?_⟩
    have h0' : qnext W N s < 0 := by rw [hq]; exact h0
    exact (show qtell H B m W N ((30 - c2).toNat + 1) s = s from if_pos h0').symm
  · refine Or.inr ⟨by omega, ?_⟩
    have h0' : ¬ qnext W N s < 0 := by rw [hq]; exact h0
    rw [show qtell H B m W N ((30 - c2).toNat + 1) s = qtell H B m W N (30 - c2).toNat (qland H B m s (qnext W N s)) from if_neg h0', hq]
theorem qgo_u {P Q : Prop} {v : Int} (h : (v < 0 ∧ P) ∨ (0 ≤ v ∧ Q)) (hv : 0 ≤ v) : Q := by
  rcases h with h | h
  · exact absurd h.1 (by omega)
  · exact h.2
theorem qgo_e {P Q : Prop} {v : Int} (h : (v < 0 ∧ P) ∨ (0 ≤ v ∧ Q)) (hv : v < 0) : P := by
  rcases h with h | h
  · exact h.2
  · exact absurd h.1 (by omega)

set_option maxHeartbeats 4000000 in
set_option maxRecDepth 20000 in
/-- OneRoofModel.blowFalls -/
theorem sf_247_86x0 {L : Nat} {xs : Nat → Int} {vb : Bool} {d : Nat} {σ α : Nat → Nat → Int} {κ : Nat → Option Nat} {ρ : Nat} {x1 : Int} {x2 : Int} {x3 : Int} {s : qTS} {st : Int} (hI : qI σ α κ ρ) (r1 : 0 ≤ x1 ∧ x1 ≤ 31) (r2 : 0 ≤ x2 ∧ x2 ≤ 31) (r3 : (-2147483648) ≤ x3 ∧ x3 ≤ 2147483647) (p0 : ¬ x1 = x2) (p1 : qZk σ α) (p2 : x1 < σ 86 6 ∧ x2 < σ 86 6) (p3 : σ 86 50 ≤ 30) (p4 : qTr σ α st s) (p5 : σ 86 29 = s.2.2.1) : qm_T (qe L xs vb) (d + 4) 247 [.ref 86, .int (qz x1), .int (qz x2), .int (qz x3), .int (qz 0)] (qw σ α κ ρ) (fun r w' => ∃ σ' α', w' = qw σ' α' κ ρ ∧ qI σ' α' κ ρ ∧ qFr [(86, 10), (86, 29), (86, 50)] [115, 116] σ α σ' α' ∧ σ' 86 50 = σ 86 50 + 1 ∧ r = none ∧ qTr σ' α' st (qland (qHr σ α x3) (qBm σ α) (σ 86 24 : Int).toNat s (100 * x1 + x2)) ∧ σ' 86 29 = ((qland (qHr σ α x3) (qBm σ α) (σ 86 24 : Int).toNat s (100 * x1 + x2))).2.2.1) := by
  refine qr_start (d := d + 3) qv_e247 (Nat.le_of_ble_eq_true rfl) ?_
  show qr_W (qe L xs vb) (d + 3) qx_e247 _ (0, [(0, .ref 86), (1, .int (qz x1)), (2, .int (qz x2)), (3, .int (qz x3)), (4, .int (qz 0))], [], _, 0, 0)
  have hF0 := qFr_rf [(86, 10), (86, 29), (86, 50)] [115, 116] σ α
  have hz86_6 : 0 ≤ σ 86 6 ∧ σ 86 6 ≤ 32 := hI.1 86 6
  have hz86_50 : 0 ≤ σ 86 50 ∧ σ 86 50 ≤ 31 := hI.1 86 50
  have hz86_29 : (-9223372036854775808) ≤ σ 86 29 ∧ σ 86 29 ≤ 9223372036854775807 := hI.1 86 29
  have hz86_10 : (-9223372036854775808) ≤ σ 86 10 ∧ σ 86 10 ≤ 9223372036854775807 := hI.1 86 10
  have hz86_24 : 0 ≤ σ 86 24 ∧ σ 86 24 ≤ 60 := hI.1 86 24
  refine qr_iconst 1 rfl rfl ?_
  refine qr_istore _ 3 rfl (by decide) rfl rfl ?_
  have hL1245 : ∀ (n : Nat) (ls : qm_L) (u1231 : Int) (σ1232 α1233 : Nat → Nat → Int), 60 - u1231 < (n : Int) → qm_get ls 0 = some (.ref 86) → qm_get ls 1 = some (.int (qz x1)) → qm_get ls 2 = some (.int (qz x2)) → qm_get ls 3 = some (.int (qz x3)) → qm_get ls 4 = some (.int (qz 0)) → qm_get ls 5 = some (.int (qz u1231)) → (0 ≤ u1231 ∧ u1231 ≤ 60) → qI σ1232 α1233 κ ρ → qFr [(86, 10), (86, 29), (86, 50)] [115, 116] σ α σ1232 α1233 → σ1232 86 6 = (σ 86 6) → σ1232 86 10 = (σ 86 10) → σ1232 86 24 = (σ 86 24) → σ1232 86 50 = (σ 86 50) → α1233 115 = (α 115) → α1233 116 = (α 116) → σ1232 86 29 = ql_or (σ 86 29) (qbs (qPk (qHr σ α x3 (σ 86 29) x1 x2) (qBm σ α x1)) (u1231 : Int).toNat) → u1231 ≤ σ 86 24 → qr_W (qe L xs vb) (d + 3) qx_e247 (fun r w' => ∃ σ' α', w' = qw σ' α' κ ρ ∧ qI σ' α' κ ρ ∧ qFr [(86, 10), (86, 29), (86, 50)] [115, 116] σ α σ' α' ∧ σ' 86 50 = σ 86 50 + 1 ∧ r = none ∧ qTr σ' α' st (qland (qHr σ α x3) (qBm σ α) (σ 86 24 : Int).toNat s (100 * x1 + x2)) ∧ σ' 86 29 = ((qland (qHr σ α x3) (qBm σ α) (σ 86 24 : Int).toNat s (100 * x1 + x2))).2.2.1) (3, ls, [], qw σ1232 α1233 κ ρ, 0, 0) := by
    intro n
    induction n with
    | zero => intro ls u1231 σ1232 α1233 hm g1225 g1226 g1227 g1228 g1229 g1230 hf1242 hI1234 hF1235 hk1236 hk1237 hk1238 hk1239 hk1240 hk1241 hx1243 hx1244; exact False.elim (by omega)
    | succ n ih1246 =>
      intro ls u1231 σ1232 α1233 hm g1225 g1226 g1227 g1228 g1229 g1230 hf1242 hI1234 hF1235 hk1236 hk1237 hk1238 hk1239 hk1240 hk1241 hx1243 hx1244
      have hs1247 : (-9223372036854775808) ≤ σ1232 86 29 ∧ σ1232 86 29 ≤ 9223372036854775807 := hI1234.1 86 29
      refine qr_iload 5 rfl g1230 rfl ?_
      refine qr_aload_n 6 rfl g1225 rfl ?_
      refine qr_get 9 rfl rfl rfl (by decide) rfl ?_
      refine qy_v (σ 86 24) ((hk1238).trans rfl) ?_
      refine qr_icmp_ge 86 12 rfl rfl rfl (qrg hf1242 (by decide) (by decide)) (qrg hz86_24 (by decide) (by decide)) (fun h1248 => ?_) (fun h1248 => ?_)
      · skip
        refine qr_aload_n 87 rfl g1225 rfl ?_
        refine qr_dup 88 rfl rfl rfl ?_
        refine qr_get 91 rfl rfl rfl (by decide) rfl ?_
        refine qy_vl (σ 86 10) ((hk1237).trans rfl) ?_
        refine qr_lconst 92 rfl rfl ?_
        refine qy_vl 1 rfl ?_
        refine qr_iload_n 93 rfl g1227 rfl ?_
        refine qr_lshl 94 rfl rfl ?_
        refine qy_canlE (fun v1249 hv1249 hev1249 => ?_)
        refine qr_lor 95 rfl rfl ?_
        refine qy_canlE (fun v1250 hv1250 hev1250 => ?_)
        refine qr_put 98 rfl (by decide) rfl (Nat.le_of_ble_eq_true rfl) (Nat.le_of_ble_eq_true rfl) (Or.inl rfl) (qr_fitL rfl _) rfl ?_
        refine qy_wS (qw_s σ1232 86 10 v1250) rfl (fun σ1251 e1252 => ?_)
        have hI1253 : qI σ1251 α1233 κ ρ := by rw [e1252]; exact qI_s hI1234 86 10 rfl (show (-9223372036854775808) ≤ v1250 ∧ v1250 ≤ 9223372036854775807 by omega)
        have hF1254 : qFr [(86, 10), (86, 29), (86, 50)] [115, 116] σ α σ1251 α1233 := by rw [e1252]; exact qFr_s hF1235 86 10 _ (by decide)
        refine qr_aload_n 99 rfl g1225 rfl ?_
        refine qr_get 102 rfl rfl rfl (by decide) rfl ?_
        refine qr_aload_n 103 rfl g1225 rfl ?_
        refine qr_get 106 rfl rfl rfl (by decide) rfl ?_
        refine qy_v (σ 86 50) ((congrFun (congrFun e1252 86) 50).trans ((hk1239).trans rfl)) ?_
        refine qr_iload_n 107 rfl g1226 rfl ?_
        refine qr_iastore 108 rfl (by decide) rfl (by omega) (by decide) rfl ?_
        refine qy_wA (qw_r α1233 115 (qzu (α1233 115) ((σ 86 50) : Int).toNat x1)) rfl (fun α1255 e1256 => ?_)
        have hI1257 : qI σ1251 α1255 κ ρ := by rw [e1256]; exact qI_r hI1253 115 _ rfl (show 0 ≤ x1 ∧ x1 ≤ 31 by omega)
        have hF1258 : qFr [(86, 10), (86, 29), (86, 50)] [115, 116] σ α σ1251 α1255 := by rw [e1256]; exact qFr_r hF1254 115 _ (by decide)
        refine qr_aload_n 109 rfl g1225 rfl ?_
        refine qr_get 112 rfl rfl rfl (by decide) rfl ?_
        refine qr_aload_n 113 rfl g1225 rfl ?_
        refine qr_get 116 rfl rfl rfl (by decide) rfl ?_
        refine qy_v (σ 86 50) ((congrFun (congrFun e1252 86) 50).trans ((hk1239).trans rfl)) ?_
        refine qr_iload_n 117 rfl g1227 rfl ?_
        refine qr_iastore 118 rfl (by decide) rfl (by omega) (by decide) rfl ?_
        refine qy_wA (qw_r α1255 116 (qzu (α1255 116) ((σ 86 50) : Int).toNat x2)) rfl (fun α1259 e1260 => ?_)
        have hI1261 : qI σ1251 α1259 κ ρ := by rw [e1260]; exact qI_r hI1257 116 _ rfl (show 0 ≤ x2 ∧ x2 ≤ 31 by omega)
        have hF1262 : qFr [(86, 10), (86, 29), (86, 50)] [115, 116] σ α σ1251 α1259 := by rw [e1260]; exact qFr_r hF1258 116 _ (by decide)
        refine qr_aload_n 119 rfl g1225 rfl ?_
        refine qr_dup 120 rfl rfl rfl ?_
        refine qr_get 123 rfl rfl rfl (by decide) rfl ?_
        refine qy_v (σ 86 50) ((congrFun (congrFun e1252 86) 50).trans ((hk1239).trans rfl)) ?_
        refine qr_iconst 124 rfl rfl ?_
        refine qr_iadd 125 rfl rfl ?_
        refine qr_put 128 rfl (by decide) rfl (Nat.le_of_ble_eq_true rfl) (Nat.le_of_ble_eq_true rfl) (Or.inl rfl) (qr_fitI rfl _) rfl ?_
        refine qy_wS (qw_s σ1251 86 50 ((σ 86 50) + 1)) rfl (fun σ1263 e1264 => ?_)
        have hI1265 : qI σ1263 α1259 κ ρ := by rw [e1264]; exact qI_s hI1261 86 50 rfl (show 0 ≤ ((σ 86 50) + 1) ∧ ((σ 86 50) + 1) ≤ 31 by omega)
        have hF1266 : qFr [(86, 10), (86, 29), (86, 50)] [115, 116] σ α σ1263 α1259 := by rw [e1264]; exact qFr_s hF1262 86 50 _ (by decide)
        refine qr_retV rfl rfl (by decide) (by decide) ?_
        exact ⟨_, _, rfl, hI1265, hF1266, (by have hw : σ1263 86 50 = ((σ 86 50) + 1) := (congrFun (congrFun e1264 86) 50).trans rfl; omega), rfl, (qTr_land (H := qHr σ α x3) (B := qBm σ α) (n := (σ 86 24 : Int).toNat) ⟨r1, r2⟩ (by omega) p4 (((congrFun e1260 115).trans ((qw_r_ne (by decide)).trans ((congrFun e1256 115).trans (qw_r_eq.trans (congrArg (fun f => qzu f ((σ 86 50) : Int).toNat x1) hk1240)))))) (((congrFun e1260 116).trans (qw_r_eq.trans (congrArg (fun f => qzu f ((σ 86 50) : Int).toNat x2) ((congrFun e1256 116).trans ((qw_r_ne (by decide)).trans hk1241)))))) ((congrFun (congrFun e1264 86) 50).trans rfl) ((congrFun (congrFun e1264 86) 6).trans ((congrFun (congrFun e1252 86) 6).trans ((hk1236).trans rfl))) (by have hw : σ1263 86 10 = v1250 := (congrFun (congrFun e1264 86) 10).trans ((congrFun (congrFun e1252 86) 10).trans rfl); rw [hw, ql_val hev1250 (by omega) (ql_or_r _ _), ql_val hev1249 (by omega) (ql_shl_r _ _)])), (by have hb := hx1243; show σ1263 86 29 = ql_or s.2.2.1 (qbs (qPk (qHr σ α x3 s.2.2.1 ((100 * x1 + x2) / 100) ((100 * x1 + x2) % 100)) (qBm σ α ((100 * x1 + x2) / 100))) (σ 86 24 : Int).toNat); rw [show (100 * x1 + x2) / 100 = x1 by omega, show (100 * x1 + x2) % 100 = x2 by omega, ← p5, show (σ 86 24 : Int).toNat = (u1231 : Int).toNat by rw [show σ 86 24 = u1231 by omega], (congrFun (congrFun e1264 86) 29).trans ((congrFun (congrFun e1252 86) 29).trans rfl)]; exact hb)⟩
      · skip
        refine qr_aload_n 13 rfl g1225 rfl ?_
        refine qr_iload 15 rfl g1230 rfl ?_
        refine qr_iload_n 16 rfl g1226 rfl ?_
        refine qr_iload_n 17 rfl g1227 rfl ?_
        refine qr_iload_n 18 rfl g1228 rfl ?_
        have hs1267 : 0 ≤ σ1232 86 24 ∧ σ1232 86 24 ≤ 60 := hI1234.1 86 24
        have hs1268 : σ1232 86 24 = (σ 86 24) := (hk1238).trans rfl
        have hs1269 : 0 ≤ σ1232 86 6 ∧ σ1232 86 6 ≤ 32 := hI1234.1 86 6
        have hs1270 : σ1232 86 6 = (σ 86 6) := (hk1236).trans rfl
        refine qr_callN 21 rfl rfl rfl (sf_205_86x (d := d + 0) hI1234 (by omega) r1 r2 r3 (by omega) (by omega) (qZk_fr hF1235 (by decide) (by decide) p1) (by omega)) ?_
        have hs1273 : (-9223372036854775808) ≤ σ1232 86 29 ∧ σ1232 86 29 ≤ 9223372036854775807 := hI1234.1 86 29
        rintro _ _ ⟨rfl, v1271, rfl, hv1271, hp1272⟩
        rw [hF1235.2 87 (by decide), hF1235.2 91 (by decide), hF1235.2 102 (by decide), hF1235.2 103 (by decide), hF1235.2 104 (by decide), hF1235.2 105 (by decide)] at hp1272
        show qr_W (qe L xs vb) (d + 3) qx_e247 _ (21, _, [.int (qz v1271)], qw σ1232 α1233 κ ρ, 0, 0)
        refine qr_if_eq 80 24 rfl rfl rfl (qrg hv1271 (by decide) (by decide)) (fun h1274 => ?_) (fun h1274 => ?_)
        · skip
          refine qr_iinc _ 83 rfl g1230 (by decide) rfl rfl ?_
          refine qr_goto 3 rfl rfl ?_
          exact ih1246 _ (u1231 + 1) σ1232 α1233 (by omega) (qm_gk g1225 (by decide) (Or.inl (by decide))) (qm_gk g1226 (by decide) (Or.inl (by decide))) (qm_gk g1227 (by decide) (Or.inl (by decide))) (qm_gk g1228 (by decide) (Or.inl (by decide))) (qm_gk g1229 (by decide) (Or.inr rfl)) (qm_ge _ _ _) (by omega) hI1234 hF1235 ((hk1236).trans rfl) ((hk1237).trans rfl) ((hk1238).trans rfl) ((hk1239).trans rfl) hk1240 hk1241 (qbl_no (by omega) (by have a1 := qPk_c (qHr σ α x3 (σ 86 29) x1 x2) (qBm σ α x1) (u1231 : Int).toNat; have a2 : qHr σ α x3 (σ 86 29) x1 x2 (u1231 : Int).toNat = qhG (σ 86 29) (qhF (qsh (α 87) 192) (α 102) (α 103) (qun (α 104) (α 105) (qsh (α 87) 192)) (qcw (α 87)) (qll (α 91)) x1 x2 x3) (u1231 : Int).toNat := rfl; have a3 := qhG_or (f := (qhF (qsh (α 87) 192) (α 102) (α 103) (qun (α 104) (α 105) (qsh (α 87) 192)) (qcw (α 87)) (qll (α 91)) x1 x2 x3)) (by omega) hx1243; have a4 : (qBm σ α x1 (u1231 : Int).toNat = 1 ∧ (α 102 (u1231 : Int).toNat = x1 ∨ qcw (α 87) (u1231 : Int).toNat x1 = 1)) ∨ (qBm σ α x1 (u1231 : Int).toNat = 0 ∧ ¬ (α 102 (u1231 : Int).toNat = x1 ∨ qcw (α 87) (u1231 : Int).toNat x1 = 1)) := qbF_d (α 102) (qcw (α 87)) x1 (u1231 : Int).toNat; have a5 := hp1272; omega) hx1243) (by omega)
        · skip
          refine qr_aload_n 25 rfl g1225 rfl ?_
          refine qr_get 28 rfl rfl rfl (by decide) rfl ?_
          refine qr_iload 30 rfl g1230 rfl ?_
          refine qr_iaload 31 rfl rfl (by omega) (by decide) rfl ?_
          refine qr_topI (fun v1275 hv1275 => ?_)
          have hs1276 : 0 ≤ v1275 ∧ v1275 ≤ 31 := by rw [hv1275]; exact hI1234.2.1 102 _ (show _ < 60 by omega)
          refine qr_iload_n 32 rfl g1226 rfl ?_
          refine qr_icmp_eq 45 35 rfl rfl rfl (qrg hs1276 (by decide) (by decide)) (qrg r1 (by decide) (by decide)) (fun h1277 => ?_) (fun h1277 => ?_)
          · skip
            refine qr_iload 47 rfl g1229 rfl ?_
            refine qr_if_eq 67 50 rfl rfl rfl (by decide) (fun h1278 => ?_) (fun h => False.elim (by omega))
            refine qr_aload_n 68 rfl g1225 rfl ?_
            refine qr_dup 69 rfl rfl rfl ?_
            refine qr_get 72 rfl rfl rfl (by decide) rfl ?_
            refine qr_lconst 73 rfl rfl ?_
            refine qy_vl 1 rfl ?_
            refine qr_iload 75 rfl g1230 rfl ?_
            refine qr_lshl 76 rfl rfl ?_
            refine qy_canlE (fun v1279 hv1279 hev1279 => ?_)
            refine qr_lor 77 rfl rfl ?_
            refine qy_canlE (fun v1280 hv1280 hev1280 => ?_)
            refine qr_put 80 rfl (by decide) rfl (Nat.le_of_ble_eq_true rfl) (Nat.le_of_ble_eq_true rfl) (Or.inl rfl) (qr_fitL rfl _) rfl ?_
            refine qy_wS (qw_s σ1232 86 29 v1280) rfl (fun σ1281 e1282 => ?_)
            have hI1283 : qI σ1281 α1233 κ ρ := by rw [e1282]; exact qI_s hI1234 86 29 rfl (show (-9223372036854775808) ≤ v1280 ∧ v1280 ≤ 9223372036854775807 by omega)
            have hF1284 : qFr [(86, 10), (86, 29), (86, 50)] [115, 116] σ α σ1281 α1233 := by rw [e1282]; exact qFr_s hF1235 86 29 _ (by decide)
            refine qr_iinc _ 83 rfl g1230 (by decide) rfl rfl ?_
            refine qr_goto 3 rfl rfl ?_
            exact ih1246 _ (u1231 + 1) σ1281 α1233 (by omega) (qm_gk g1225 (by decide) (Or.inl (by decide))) (qm_gk g1226 (by decide) (Or.inl (by decide))) (qm_gk g1227 (by decide) (Or.inl (by decide))) (qm_gk g1228 (by decide) (Or.inl (by decide))) (qm_gk g1229 (by decide) (Or.inr rfl)) (qm_ge _ _ _) (by omega) hI1283 hF1284 ((congrFun (congrFun e1282 86) 6).trans ((hk1236).trans rfl)) ((congrFun (congrFun e1282 86) 10).trans ((hk1237).trans rfl)) ((congrFun (congrFun e1282 86) 24).trans ((hk1238).trans rfl)) ((congrFun (congrFun e1282 86) 50).trans ((hk1239).trans rfl)) hk1240 hk1241 (qbl_yes (by omega) (by have a1 := qPk_c (qHr σ α x3 (σ 86 29) x1 x2) (qBm σ α x1) (u1231 : Int).toNat; have a2 : qHr σ α x3 (σ 86 29) x1 x2 (u1231 : Int).toNat = qhG (σ 86 29) (qhF (qsh (α 87) 192) (α 102) (α 103) (qun (α 104) (α 105) (qsh (α 87) 192)) (qcw (α 87)) (qll (α 91)) x1 x2 x3) (u1231 : Int).toNat := rfl; have a3 := qhG_or (f := (qhF (qsh (α 87) 192) (α 102) (α 103) (qun (α 104) (α 105) (qsh (α 87) 192)) (qcw (α 87)) (qll (α 91)) x1 x2 x3)) (by omega) hx1243; have a4 : (qBm σ α x1 (u1231 : Int).toNat = 1 ∧ (α 102 (u1231 : Int).toNat = x1 ∨ qcw (α 87) (u1231 : Int).toNat x1 = 1)) ∨ (qBm σ α x1 (u1231 : Int).toNat = 0 ∧ ¬ (α 102 (u1231 : Int).toNat = x1 ∨ qcw (α 87) (u1231 : Int).toNat x1 = 1)) := qbF_d (α 102) (qcw (α 87)) x1 (u1231 : Int).toNat; have a5 := hp1272; have a6 : v1275 = α 102 (u1231 : Int).toNat := (by rw [hv1275, hF1235.2 102 (by decide)]); omega) (ql_val hev1279 (by omega) (ql_shl_r _ _)) (by have hw : σ1281 86 29 = v1280 := (congrFun (congrFun e1282 86) 29).trans rfl; rw [hw, ql_val hev1280 (by omega) (ql_or_r _ _)]) hx1243) (by omega)
          · skip
            refine qr_aload_n 36 rfl g1225 rfl ?_
            refine qr_iload 38 rfl g1230 rfl ?_
            refine qr_iload_n 39 rfl g1226 rfl ?_
            refine qr_callN 42 rfl rfl rfl (sf_202_86x (d := d + 2) hI1234 (by omega) r1) ?_
            rintro _ _ ⟨rfl, v1285, rfl, hv1285, hp1286⟩
            rw [hF1235.2 87 (by decide)] at hp1286
            show qr_W (qe L xs vb) (d + 3) qx_e247 _ (42, _, [.int (qz v1285)], qw σ1232 α1233 κ ρ, 0, 0)
            refine qr_if_eq 80 45 rfl rfl rfl (qrg hv1285 (by decide) (by decide)) (fun h1287 => ?_) (fun h1287 => ?_)
            · skip
              refine qr_iinc _ 83 rfl g1230 (by decide) rfl rfl ?_
              refine qr_goto 3 rfl rfl ?_
              exact ih1246 _ (u1231 + 1) σ1232 α1233 (by omega) (qm_gk g1225 (by decide) (Or.inl (by decide))) (qm_gk g1226 (by decide) (Or.inl (by decide))) (qm_gk g1227 (by decide) (Or.inl (by decide))) (qm_gk g1228 (by decide) (Or.inl (by decide))) (qm_gk g1229 (by decide) (Or.inr rfl)) (qm_ge _ _ _) (by omega) hI1234 hF1235 ((hk1236).trans rfl) ((hk1237).trans rfl) ((hk1238).trans rfl) ((hk1239).trans rfl) hk1240 hk1241 (qbl_no (by omega) (by have a1 := qPk_c (qHr σ α x3 (σ 86 29) x1 x2) (qBm σ α x1) (u1231 : Int).toNat; have a2 : qHr σ α x3 (σ 86 29) x1 x2 (u1231 : Int).toNat = qhG (σ 86 29) (qhF (qsh (α 87) 192) (α 102) (α 103) (qun (α 104) (α 105) (qsh (α 87) 192)) (qcw (α 87)) (qll (α 91)) x1 x2 x3) (u1231 : Int).toNat := rfl; have a3 := qhG_or (f := (qhF (qsh (α 87) 192) (α 102) (α 103) (qun (α 104) (α 105) (qsh (α 87) 192)) (qcw (α 87)) (qll (α 91)) x1 x2 x3)) (by omega) hx1243; have a4 : (qBm σ α x1 (u1231 : Int).toNat = 1 ∧ (α 102 (u1231 : Int).toNat = x1 ∨ qcw (α 87) (u1231 : Int).toNat x1 = 1)) ∨ (qBm σ α x1 (u1231 : Int).toNat = 0 ∧ ¬ (α 102 (u1231 : Int).toNat = x1 ∨ qcw (α 87) (u1231 : Int).toNat x1 = 1)) := qbF_d (α 102) (qcw (α 87)) x1 (u1231 : Int).toNat; have a5 := hp1272; have a6 : v1275 = α 102 (u1231 : Int).toNat := (by rw [hv1275, hF1235.2 102 (by decide)]); have a7 := hp1286; omega) hx1243) (by omega)
            · skip
              refine qr_iload 47 rfl g1229 rfl ?_
              refine qr_if_eq 67 50 rfl rfl rfl (by decide) (fun h1288 => ?_) (fun h => False.elim (by omega))
              refine qr_aload_n 68 rfl g1225 rfl ?_
              refine qr_dup 69 rfl rfl rfl ?_
              refine qr_get 72 rfl rfl rfl (by decide) rfl ?_
              refine qr_lconst 73 rfl rfl ?_
              refine qy_vl 1 rfl ?_
              refine qr_iload 75 rfl g1230 rfl ?_
              refine qr_lshl 76 rfl rfl ?_
              refine qy_canlE (fun v1289 hv1289 hev1289 => ?_)
              refine qr_lor 77 rfl rfl ?_
              refine qy_canlE (fun v1290 hv1290 hev1290 => ?_)
              refine qr_put 80 rfl (by decide) rfl (Nat.le_of_ble_eq_true rfl) (Nat.le_of_ble_eq_true rfl) (Or.inl rfl) (qr_fitL rfl _) rfl ?_
              refine qy_wS (qw_s σ1232 86 29 v1290) rfl (fun σ1291 e1292 => ?_)
              have hI1293 : qI σ1291 α1233 κ ρ := by rw [e1292]; exact qI_s hI1234 86 29 rfl (show (-9223372036854775808) ≤ v1290 ∧ v1290 ≤ 9223372036854775807 by omega)
              have hF1294 : qFr [(86, 10), (86, 29), (86, 50)] [115, 116] σ α σ1291 α1233 := by rw [e1292]; exact qFr_s hF1235 86 29 _ (by decide)
              refine qr_iinc _ 83 rfl g1230 (by decide) rfl rfl ?_
              refine qr_goto 3 rfl rfl ?_
              exact ih1246 _ (u1231 + 1) σ1291 α1233 (by omega) (qm_gk g1225 (by decide) (Or.inl (by decide))) (qm_gk g1226 (by decide) (Or.inl (by decide))) (qm_gk g1227 (by decide) (Or.inl (by decide))) (qm_gk g1228 (by decide) (Or.inl (by decide))) (qm_gk g1229 (by decide) (Or.inr rfl)) (qm_ge _ _ _) (by omega) hI1293 hF1294 ((congrFun (congrFun e1292 86) 6).trans ((hk1236).trans rfl)) ((congrFun (congrFun e1292 86) 10).trans ((hk1237).trans rfl)) ((congrFun (congrFun e1292 86) 24).trans ((hk1238).trans rfl)) ((congrFun (congrFun e1292 86) 50).trans ((hk1239).trans rfl)) hk1240 hk1241 (qbl_yes (by omega) (by have a1 := qPk_c (qHr σ α x3 (σ 86 29) x1 x2) (qBm σ α x1) (u1231 : Int).toNat; have a2 : qHr σ α x3 (σ 86 29) x1 x2 (u1231 : Int).toNat = qhG (σ 86 29) (qhF (qsh (α 87) 192) (α 102) (α 103) (qun (α 104) (α 105) (qsh (α 87) 192)) (qcw (α 87)) (qll (α 91)) x1 x2 x3) (u1231 : Int).toNat := rfl; have a3 := qhG_or (f := (qhF (qsh (α 87) 192) (α 102) (α 103) (qun (α 104) (α 105) (qsh (α 87) 192)) (qcw (α 87)) (qll (α 91)) x1 x2 x3)) (by omega) hx1243; have a4 : (qBm σ α x1 (u1231 : Int).toNat = 1 ∧ (α 102 (u1231 : Int).toNat = x1 ∨ qcw (α 87) (u1231 : Int).toNat x1 = 1)) ∨ (qBm σ α x1 (u1231 : Int).toNat = 0 ∧ ¬ (α 102 (u1231 : Int).toNat = x1 ∨ qcw (α 87) (u1231 : Int).toNat x1 = 1)) := qbF_d (α 102) (qcw (α 87)) x1 (u1231 : Int).toNat; have a5 := hp1272; have a6 : v1275 = α 102 (u1231 : Int).toNat := (by rw [hv1275, hF1235.2 102 (by decide)]); have a7 := hp1286; omega) (ql_val hev1289 (by omega) (ql_shl_r _ _)) (by have hw : σ1291 86 29 = v1290 := (congrFun (congrFun e1292 86) 29).trans rfl; rw [hw, ql_val hev1290 (by omega) (ql_or_r _ _)]) hx1243) (by omega)
  exact hL1245 ((60 - 0 + 1 : Int)).toNat _ 0 σ α (by omega) rfl rfl rfl rfl rfl rfl (by decide) hI hF0 (rfl) (rfl) (rfl) (rfl) rfl rfl ((rfl).trans (qbl_0 (hI.1 86 29))) (by omega)

set_option maxHeartbeats 4000000 in
set_option maxRecDepth 20000 in
/-- OneRoofModel.goesOn -/
theorem sf_246_86x0 {L : Nat} {xs : Nat → Int} {vb : Bool} {d : Nat} {σ α : Nat → Nat → Int} {κ : Nat → Option Nat} {ρ : Nat} {x1 : Int} {x2 : Int} {x3 : Int} {g0 g1 : (Nat → Int) → Int} (hI : qI σ α κ ρ) (r1 : 0 ≤ x1 ∧ x1 ≤ 3131) (r2 : (-9223372036854775808) ≤ x2 ∧ x2 ≤ 9223372036854775807) (r3 : (-2147483648) ≤ x3 ∧ x3 ≤ 2147483647) (p0 : 1 ≤ σ 86 6) (p1 : x1 / 100 < σ 86 6 ∧ x1 % 100 < σ 86 6 ∧ ¬ x1 / 100 = x1 % 100) (p2 : qPG σ α 0 g0) (p3 : qPG σ α 1 g1) (p4 : qZf σ α) (p5 : qZk σ α) (p6 : σ 86 29 = 0) (p7 : σ 86 41 = 0) : qm_T (qe L xs vb) (d + 49) 246 [.ref 86, .int (qz x1), .long (ql x2), .int (qz x3), .int (qz 0)] (qw σ α κ ρ) (fun r w' => ∃ σ' α', w' = qw σ' α' κ ρ ∧ qI σ' α' κ ρ ∧ qFr [(86, 10), (86, 15), (86, 23), (86, 29), (86, 30), (86, 35), (86, 36), (86, 37), (86, 38), (86, 39), (86, 50), (86, 51)] [96, 109, 115, 116] σ α σ' α' ∧ r = none ∧ qTr σ' α' x2 (qtell (qHr σ α x3) (qBm σ α) (σ 86 24 : Int).toNat (qWr σ α g0 g1 x3) (σ 86 6) 30 (qland (qHr σ α x3) (qBm σ α) (σ 86 24 : Int).toNat ([], ql_and x2 (ql_xor (σ 86 10) (-1)), 0, []) x1)) ∧ σ' 86 51 = ((qtell (qHr σ α x3) (qBm σ α) (σ 86 24 : Int).toNat (qWr σ α g0 g1 x3) (σ 86 6) 30 (qland (qHr σ α x3) (qBm σ α) (σ 86 24 : Int).toNat ([], ql_and x2 (ql_xor (σ 86 10) (-1)), 0, []) x1))).2.1) := by
  refine qr_start (d := d + 48) qv_e246 (Nat.le_of_ble_eq_true rfl) ?_
  show qr_W (qe L xs vb) (d + 48) qx_e246 _ (0, [(0, .ref 86), (1, .int (qz x1)), (2, .long (ql x2)), (4, .int (qz x3)), (5, .int (qz 0))], [], _, 0, 0)
  have hF0 := qFr_rf [(86, 10), (86, 15), (86, 23), (86, 29), (86, 30), (86, 35), (86, 36), (86, 37), (86, 38), (86, 39), (86, 50), (86, 51)] [96, 109, 115, 116] σ α
  have hz86_6 : 0 ≤ σ 86 6 ∧ σ 86 6 ≤ 32 := hI.1 86 6
  have hz86_29 : (-9223372036854775808) ≤ σ 86 29 ∧ σ 86 29 ≤ 9223372036854775807 := hI.1 86 29
  have hz86_41 : 0 ≤ σ 86 41 ∧ σ 86 41 ≤ 1 := hI.1 86 41
  have hz86_10 : (-9223372036854775808) ≤ σ 86 10 ∧ σ 86 10 ≤ 9223372036854775807 := hI.1 86 10
  have hz86_24 : 0 ≤ σ 86 24 ∧ σ 86 24 ≤ 60 := hI.1 86 24
  have hz86_50 : 0 ≤ σ 86 50 ∧ σ 86 50 ≤ 31 := hI.1 86 50
  refine qr_aload_n 1 rfl rfl rfl ?_
  refine qr_iconst 2 rfl rfl ?_
  refine qr_put 5 rfl (by decide) rfl (Nat.le_of_ble_eq_true rfl) (Nat.le_of_ble_eq_true rfl) (Or.inl rfl) (qr_fitI rfl _) rfl ?_
  refine qy_wS (qw_s σ 86 50 0) rfl (fun σ1 e2 => ?_)
  have hI3 : qI σ1 α κ ρ := by rw [e2]; exact qI_s hI 86 50 rfl (show 0 ≤ 0 ∧ 0 ≤ 31 by omega)
  have hF4 : qFr [(86, 10), (86, 15), (86, 23), (86, 29), (86, 30), (86, 35), (86, 36), (86, 37), (86, 38), (86, 39), (86, 50), (86, 51)] [96, 109, 115, 116] σ α σ1 α := by rw [e2]; exact qFr_s hF0 86 50 _ (by decide)
  refine qr_iload_n 6 rfl rfl rfl ?_
  refine qr_istore _ 8 rfl (by decide) rfl rfl ?_
  have hL275 : ∀ (n : Nat) (ls : qm_L) (u264 : Int) (σ265 α266 : Nat → Nat → Int), ((31 - σ265 86 50).toNat : Int) < (n : Int) → qm_get ls 0 = some (.ref 86) → qm_get ls 2 = some (.long (ql x2)) → qm_get ls 4 = some (.int (qz x3)) → qm_get ls 5 = some (.int (qz 0)) → qm_get ls 6 = some (.int (qz u264)) → ((-1) ≤ u264 ∧ u264 ≤ 3131) → qI σ265 α266 κ ρ → qFr [(86, 10), (86, 15), (86, 23), (86, 29), (86, 30), (86, 35), (86, 36), (86, 37), (86, 38), (86, 39), (86, 50), (86, 51)] [96, 109, 115, 116] σ α σ265 α266 → σ265 86 6 = (σ 86 6) → σ265 86 24 = (σ 86 24) → σ265 86 41 = (σ 86 41) → (∃ s : qTS, qTr σ265 α266 x2 s ∧ σ265 86 29 = s.2.2.1 ∧ ((u264 < 0 ∧ s = (qtell (qHr σ α x3) (qBm σ α) (σ 86 24 : Int).toNat (qWr σ α g0 g1 x3) (σ 86 6) 30 (qland (qHr σ α x3) (qBm σ α) (σ 86 24 : Int).toNat ([], ql_and x2 (ql_xor (σ 86 10) (-1)), 0, []) x1))) ∨ (0 ≤ u264 ∧ qtell (qHr σ α x3) (qBm σ α) (σ 86 24 : Int).toNat (qWr σ α g0 g1 x3) (σ 86 6) (30 - σ265 86 50 : Int).toNat (qland (qHr σ α x3) (qBm σ α) (σ 86 24 : Int).toNat s u264) = (qtell (qHr σ α x3) (qBm σ α) (σ 86 24 : Int).toNat (qWr σ α g0 g1 x3) (σ 86 6) 30 (qland (qHr σ α x3) (qBm σ α) (σ 86 24 : Int).toNat ([], ql_and x2 (ql_xor (σ 86 10) (-1)), 0, []) x1))))) → (u264 = -1 ∨ (0 ≤ u264 ∧ u264 / 100 < σ 86 6 ∧ u264 % 100 < σ 86 6 ∧ ¬ u264 / 100 = u264 % 100 ∧ σ265 86 50 ≤ 30)) → qr_W (qe L xs vb) (d + 48) qx_e246 (fun r w' => ∃ σ' α', w' = qw σ' α' κ ρ ∧ qI σ' α' κ ρ ∧ qFr [(86, 10), (86, 15), (86, 23), (86, 29), (86, 30), (86, 35), (86, 36), (86, 37), (86, 38), (86, 39), (86, 50), (86, 51)] [96, 109, 115, 116] σ α σ' α' ∧ r = none ∧ qTr σ' α' x2 (qtell (qHr σ α x3) (qBm σ α) (σ 86 24 : Int).toNat (qWr σ α g0 g1 x3) (σ 86 6) 30 (qland (qHr σ α x3) (qBm σ α) (σ 86 24 : Int).toNat ([], ql_and x2 (ql_xor (σ 86 10) (-1)), 0, []) x1)) ∧ σ' 86 51 = ((qtell (qHr σ α x3) (qBm σ α) (σ 86 24 : Int).toNat (qWr σ α g0 g1 x3) (σ 86 6) 30 (qland (qHr σ α x3) (qBm σ α) (σ 86 24 : Int).toNat ([], ql_and x2 (ql_xor (σ 86 10) (-1)), 0, []) x1))).2.1) (8, ls, [], qw σ265 α266 κ ρ, 0, 0) := by
    intro n
    induction n with
    | zero => intro ls u264 σ265 α266 hm g259 g260 g261 g262 g263 hf272 hI267 hF268 hk269 hk270 hk271 hx273 hx274; exact False.elim (by omega)
    | succ n ih276 =>
      intro ls u264 σ265 α266 hm g259 g260 g261 g262 g263 hf272 hI267 hF268 hk269 hk270 hk271 hx273 hx274
      have hs277 : 0 ≤ σ265 86 50 ∧ σ265 86 50 ≤ 31 := hI267.1 86 50
      obtain ⟨s278, ht279, ht280, ht281⟩ := hx273
      refine qr_iload 10 rfl g263 rfl ?_
      refine qr_if_lt 56 13 rfl rfl rfl (qrg hf272 (by decide) (by decide)) (fun h282 => ?_) (fun h282 => ?_)
      · skip
        have ht283 := qgo_e ht281 (by omega)
        refine qr_aload_n 57 rfl g259 rfl ?_
        refine qr_lload_n 58 rfl g260 rfl ?_
        refine qr_aload_n 59 rfl g259 rfl ?_
        refine qr_get 62 rfl rfl rfl (by decide) rfl ?_
        have hs284 : (-9223372036854775808) ≤ σ265 86 10 ∧ σ265 86 10 ≤ 9223372036854775807 := hI267.1 86 10
        refine qr_ldc2 (-1) 65 rfl (by decide) rfl ?_
        refine qr_lxor 66 rfl rfl ?_
        refine qy_canlE (fun v285 hv285 hev285 => ?_)
        refine qr_land 67 rfl rfl ?_
        refine qy_canlE (fun v286 hv286 hev286 => ?_)
        refine qr_put 70 rfl (by decide) rfl (Nat.le_of_ble_eq_true rfl) (Nat.le_of_ble_eq_true rfl) (Or.inl rfl) (qr_fitL rfl _) rfl ?_
        refine qy_wS (qw_s σ265 86 51 v286) rfl (fun σ287 e288 => ?_)
        have hI289 : qI σ287 α266 κ ρ := by rw [e288]; exact qI_s hI267 86 51 rfl (show (-9223372036854775808) ≤ v286 ∧ v286 ≤ 9223372036854775807 by omega)
        have hF290 : qFr [(86, 10), (86, 15), (86, 23), (86, 29), (86, 30), (86, 35), (86, 36), (86, 37), (86, 38), (86, 39), (86, 50), (86, 51)] [96, 109, 115, 116] σ α σ287 α266 := by rw [e288]; exact qFr_s hF268 86 51 _ (by decide)
        have hk291 : σ287 86 50 = σ265 86 50 := (congrFun (congrFun e288 86) 50)
        have hk292 : σ287 86 6 = σ265 86 6 := (congrFun (congrFun e288 86) 6)
        have hk293 : σ287 86 10 = σ265 86 10 := (congrFun (congrFun e288 86) 10)
        refine qr_retV rfl rfl (by decide) (by decide) ?_
        exact ⟨_, _, rfl, hI289, hF290, rfl, (by rw [← ht283]; exact qTr_c (rfl) (rfl) (hk291) (hk292) (hk293) ht279), (by rw [← ht283, show σ287 86 51 = v286 from (congrFun (congrFun e288 86) 51).trans rfl, ql_val hev286 (by omega) (ql_and_r _ _), ql_val hev285 (by omega) (ql_xor_r _ _)]; exact ht279.2)⟩
      · skip
        have ht294 := qgo_u ht281 (by omega)
        refine qr_aload_n 14 rfl g259 rfl ?_
        refine qr_iload 16 rfl g263 rfl ?_
        refine qr_bipush 18 rfl (by decide) rfl ?_
        refine qr_idiv 19 rfl (by omega) (by decide) rfl ?_
        refine qr_iload 21 rfl g263 rfl ?_
        refine qr_bipush 23 rfl (by decide) rfl ?_
        refine qr_irem 24 rfl (by omega) (by decide) rfl ?_
        refine qr_iload 26 rfl g261 rfl ?_
        refine qr_iload 28 rfl g262 rfl ?_
        have hs295 : (-9223372036854775808) ≤ σ265 86 29 ∧ σ265 86 29 ≤ 9223372036854775807 := hI267.1 86 29
        have hs296 : 0 ≤ σ265 86 50 ∧ σ265 86 50 ≤ 31 := hI267.1 86 50
        have hs297 : 0 ≤ σ265 86 6 ∧ σ265 86 6 ≤ 32 := hI267.1 86 6
        have hs298 : σ265 86 6 = (σ 86 6) := (hk269).trans rfl
        refine qr_callN 31 rfl rfl rfl (sf_247_86x0 (d := d + 44) hI267 (by omega) (by omega) r3 (by omega) (qZk_fr hF268 (by decide) (by decide) p5) (by omega) (by omega) ht279 ht280) ?_
        rintro _ _ ⟨σ302, α303, rfl, hI304, hG305, hw301, rfl, hx299, hx300⟩
        have hF306 : qFr [(86, 10), (86, 15), (86, 23), (86, 29), (86, 30), (86, 35), (86, 36), (86, 37), (86, 38), (86, 39), (86, 50), (86, 51)] [96, 109, 115, 116] σ α σ302 α303 := qFr_t hF268 hG305 (by decide) (by decide)
        have hs307 : 0 ≤ σ302 86 50 ∧ σ302 86 50 ≤ 31 := hI304.1 86 50
        rw [hF268.1 86 24 (by decide)] at hx299
        rw [hF268.1 86 24 (by decide)] at hx300
        show qr_W (qe L xs vb) (d + 48) qx_e246 _ (31, _, [], qw σ302 α303 κ ρ, 0, 0)
        rw [qHr_fr hF268 (by decide), qBm_fr hF268 (by decide), show 100 * (u264 / 100) + u264 % 100 = u264 by omega] at hx299
        rw [qHr_fr hF268 (by decide), qBm_fr hF268 (by decide), show 100 * (u264 / 100) + u264 % 100 = u264 by omega] at hx300
        have hc308 : σ302 86 50 = σ265 86 50 + 1 := hw301
        refine qr_aload_n 32 rfl g259 rfl ?_
        refine qr_get 35 rfl rfl rfl (by decide) rfl ?_
        refine qr_bipush 37 rfl (by decide) rfl ?_
        refine qr_icmp_ne 44 40 rfl rfl rfl (by omega) (by decide) (fun h309 => ?_) (fun h309 => ?_)
        · skip
          refine qr_aload_n 45 rfl g259 rfl ?_
          refine qr_lload_n 46 rfl g260 rfl ?_
          refine qr_iload 48 rfl g261 rfl ?_
          have hs310 : 0 ≤ σ302 86 50 ∧ σ302 86 50 ≤ 31 := hI304.1 86 50
          have hs311 : 0 ≤ σ302 86 6 ∧ σ302 86 6 ≤ 32 := hI304.1 86 6
          have hs312 : σ302 86 6 = (σ 86 6) := (hG305.1 86 6 (by decide)).trans ((hk269).trans rfl)
          refine qr_callN 51 rfl rfl rfl (sf_248_86x (d := d + 0) hI304 r2 r3 (qPG_fr hF306 (by decide) (by decide) p2) (qPG_fr hF306 (by decide) (by decide) p3) (qZf_fr hF306 (by decide) (by decide) p4) (qZk_fr hF306 (by decide) (by decide) p5) (qTr_on hx299)) ?_
          rintro _ _ ⟨σ316, α317, rfl, hI318, hG319, v313, rfl, hv313, hp314, hx315⟩
          have hF320 : qFr [(86, 10), (86, 15), (86, 23), (86, 29), (86, 30), (86, 35), (86, 36), (86, 37), (86, 38), (86, 39), (86, 50), (86, 51)] [96, 109, 115, 116] σ α σ316 α317 := qFr_t hF306 hG319 (by decide) (by decide)
          rw [hF306.1 86 6 (by decide)] at hx315
          show qr_W (qe L xs vb) (d + 48) qx_e246 _ (51, _, [.int (qz v313)], qw σ316 α317 κ ρ, 0, 0)
          have hq321 := qtr_n (σ := σ) (α := α) hx299 (qtr_v (qNVr_fr hF306 (by decide) (by decide)) p7 (by omega) hx299 hx300) (by omega) hx315
          have hq322 := qtr_r (by omega) hx315
          have hq323 := qTr_c (hG319.2 115 (by decide)) (hG319.2 116 (by decide)) (hG319.1 86 50 (by decide)) (hG319.1 86 6 (by decide)) (hG319.1 86 10 (by decide)) hx299
          have hq324 := (hG319.1 86 29 (by decide)).trans hx300
          have hq325 := hG319.1 86 50 (by decide)
          refine qr_istore _ 53 rfl (by decide) rfl rfl ?_
          refine qr_goto 8 rfl rfl ?_
          exact ih276 _ v313 σ316 α317 (by have hw0 : σ316 86 50 = (σ302 86 50) := (hG319.1 86 50 (by decide)).trans rfl; omega) (qm_gk g259 (by decide) (Or.inl (by decide))) (qm_gk g260 (by decide) (Or.inl (by decide))) (qm_gk g261 (by decide) (Or.inl (by decide))) (qm_gk g262 (by decide) (Or.inr rfl)) (qm_ge _ _ _) hv313 hI318 hF320 ((hG319.1 86 6 (by decide)).trans ((hG305.1 86 6 (by decide)).trans ((hk269).trans rfl))) ((hG319.1 86 24 (by decide)).trans ((hG305.1 86 24 (by decide)).trans ((hk270).trans rfl))) ((hG319.1 86 41 (by decide)).trans ((hG305.1 86 41 (by decide)).trans ((hk271).trans rfl))) ⟨_, hq323, hq324, qgo_b (by omega) (by omega) hq321 ht294⟩ (by have hr := hq322; omega)
        · skip
          refine qr_iconst 41 rfl rfl ?_
          refine qr_goto 51 rfl rfl ?_
          refine qr_istore _ 53 rfl (by decide) rfl rfl ?_
          refine qr_goto 8 rfl rfl ?_
          exact ih276 _ (-1) σ302 α303 (by have hw0 : σ302 86 50 = (σ302 86 50) := rfl; omega) (qm_gk g259 (by decide) (Or.inl (by decide))) (qm_gk g260 (by decide) (Or.inl (by decide))) (qm_gk g261 (by decide) (Or.inl (by decide))) (qm_gk g262 (by decide) (Or.inr rfl)) (qm_ge _ _ _) (by decide) hI304 hF306 ((hG305.1 86 6 (by decide)).trans ((hk269).trans rfl)) ((hG305.1 86 24 (by decide)).trans ((hk270).trans rfl)) ((hG305.1 86 41 (by decide)).trans ((hk271).trans rfl)) ⟨_, hx299, hx300, Or.inl ⟨by omega, qgo_a (by omega) ht294⟩⟩ (Or.inl rfl)
  exact hL275 ((((31 - σ1 86 50).toNat : Int) + 1 : Int)).toNat _ x1 σ1 α (by have hw0 : σ1 86 50 = 0 := (congrFun (congrFun e2 86) 50).trans rfl; omega) rfl rfl rfl rfl rfl (qrg r1 (by decide) (by decide)) hI3 hF4 ((congrFun (congrFun e2 86) 6).trans rfl) ((congrFun (congrFun e2 86) 24).trans rfl) ((congrFun (congrFun e2 86) 41).trans rfl) ⟨_, qTr_0 ((congrFun (congrFun e2 86) 50).trans rfl) ((congrFun (congrFun e2 86) 10).trans rfl), ((congrFun (congrFun e2 86) 29).trans rfl).trans p6, Or.inr ⟨by omega, by rw [show σ1 86 50 = 0 from (congrFun (congrFun e2 86) 50).trans rfl]; rfl⟩⟩ (by have hw : σ1 86 50 = 0 := (congrFun (congrFun e2 86) 50).trans rfl; omega)
end
section
/-! changes: what both sides keep of them -/
/-- numbers that may change (252 of them); of each change its place, what was and what is; how many are done, how many are known -/
abbrev qHS := (Nat → Int) × (Nat → Int) × (Nat → Int) × (Nat → Int) × Int × Int
def qsl (f : Nat → Int) (n : Nat) : Nat → Int := fun j => if j < n then f (j + 1) else f j
theorem qsl_0 (f : Nat → Int) : qsl f 0 = f := by
  funext j
  exact if_neg (Nat.not_lt_zero j)
theorem qsl_s (f : Nat → Int) (n : Nat) : qzu (qsl f n) n (f (n + 1)) = qsl f (n + 1) := by
  funext j
  unfold qzu qsl
  by_cases c : j = n
  · rw [if_pos c, if_pos (by omega), c]
  · rw [if_neg c]
    by_cases d : j < n
    · rw [if_pos d, if_pos (by omega)]
    · rw [if_neg d, if_neg (by omega)]
theorem qsl_cpy (f : Nat → Int) : va_cpy f f 1 0 39 = qsl f 39 := by
  funext j
  unfold va_cpy qsl
  by_cases c : j < 39
  · rw [if_pos (by omega), if_pos c]
    congr 1
    omega
  · rw [if_neg (by omega), if_neg c]
def qfo (d : Int) (f : Nat → Int) : Nat → Int := if 40 ≤ d then qsl f 39 else f
def qdo (d : Int) : Int := if 40 ≤ d then 39 else d
noncomputable def qbec (h : qHS) (a w : Int) : qHS :=
  if h.1 a.toNat = w then h else (qzu h.1 a.toNat w, qzu (qfo h.2.2.2.2.1 h.2.1) (qdo h.2.2.2.2.1).toNat a, qzu (qfo h.2.2.2.2.1 h.2.2.1) (qdo h.2.2.2.2.1).toNat (h.1 a.toNat), qzu (qfo h.2.2.2.2.1 h.2.2.2.1) (qdo h.2.2.2.2.1).toNat w, qdo h.2.2.2.2.1 + 1, qdo h.2.2.2.2.1 + 1)
/-- a bit of a word set to v -/
noncomputable def qcb (w p v : Int) : Int := if v = 1 then ql_or w (ql_shl 1 p) else ql_and w (ql_xor (ql_shl 1 p) (-1))
noncomputable def qcj (w p v : Int) : Int := if v = 1 then qz_or w (qz_shl 1 p) else qz_and w (qz_xor (qz_shl 1 p) (-1))
theorem qcb_c (w : Int) {p v i : Int} (hp : 0 ≤ p ∧ p < 64) (hi : 0 ≤ i ∧ i < 64) (hv : v = 0 ∨ v = 1) : (i = p ∧ qbit (qcb w p v) i = v) ∨ (¬ i = p ∧ qbit (qcb w p v) i = qbit w i) := by
  have hs := qbit_shl hp hi.1
  have hw := qbit_r w i
  unfold qcb
  rcases hv with hv | hv
  · rw [if_neg (by omega), qbit_and, qbit_not _ hi, hs]
    by_cases c : i = p
    · refine Or.inl ⟨c, ?_⟩
      rw [if_pos c, if_neg (by omega)]
      exact hv.symm
    · refine Or.inr ⟨c, ?_⟩
      rw [if_neg c]
      by_cases e : qbit w i = 1
      · rw [if_pos ⟨e, by omega⟩, e]
      · rw [if_neg (fun z => e z.1)]
        omega
  · rw [if_pos hv, qbit_or, hs]
    by_cases c : i = p
    · refine Or.inl ⟨c, ?_⟩
      rw [if_pos c, if_pos (Or.inr rfl)]
      exact hv.symm
    · refine Or.inr ⟨c, ?_⟩
      rw [if_neg c]
      by_cases e : qbit w i = 1
      · rw [if_pos (Or.inl e), e]
      · rw [if_neg (by omega)]
        omega
theorem qcj_c (w : Int) {p v i : Int} (hp : 0 ≤ p ∧ p < 32) (hi : 0 ≤ i ∧ i < 32) (hv : v = 0 ∨ v = 1) : (i = p ∧ qbi (qcj w p v) i = v) ∨ (¬ i = p ∧ qbi (qcj w p v) i = qbi w i) := by
  have hs := qbi_shl hp hi.1
  have hw := qbi_r w i
  unfold qcj
  rcases hv with hv | hv
  · rw [if_neg (by omega), qbi_and, qbi_not _ hi, hs]
    by_cases c : i = p
    · refine Or.inl ⟨c, ?_⟩
      rw [if_pos c, if_neg (by omega)]
      exact hv.symm
    · refine Or.inr ⟨c, ?_⟩
      rw [if_neg c]
      by_cases e : qbi w i = 1
      · rw [if_pos ⟨e, by omega⟩, e]
      · rw [if_neg (fun z => e z.1)]
        omega
  · rw [if_pos hv, qbi_or, hs]
    by_cases c : i = p
    · refine Or.inl ⟨c, ?_⟩
      rw [if_pos c, if_pos (Or.inr rfl)]
      exact hv.symm
    · refine Or.inr ⟨c, ?_⟩
      rw [if_neg c]
      by_cases e : qbi w i = 1
      · rw [if_pos (Or.inl e), e]
      · rw [if_neg (by omega)]
        omega
theorem qcj_r (w p v : Int) : -2147483648 ≤ qcj w p v ∧ qcj w p v ≤ 2147483647 := by
  unfold qcj
  split
  · exact qz_or_r _ _
  · exact qz_and_r _ _
theorem qcj_eq {w p v : Int} (hw : -2147483648 ≤ w ∧ w ≤ 2147483647) (hp : 0 ≤ p ∧ p < 32) (hv : v = 0 ∨ v = 1) : w = qcj w p v ↔ qbi w p = v := by
  constructor
  · intro h
    have h1 := qcj_c w hp hp hv
    rw [← h] at h1
    omega
  · intro h
    refine qbi_ext hw (qcj_r _ _ _) (fun i hi hi2 => ?_)
    have h1 := qcj_c w hp ⟨hi, hi2⟩ hv
    rcases h1 with h1 | h1
    · rw [h1.2, h1.1]
      exact h
    · exact h1.2.symm
theorem qcj_back {w p v b : Int} (hw : -2147483648 ≤ w ∧ w ≤ 2147483647) (hp : 0 ≤ p ∧ p < 32) (hv : v = 0 ∨ v = 1) (hb : qbi w p = b) : w = qcj (qcj w p v) p b := by
  have hb2 := qbi_r w p
  refine qbi_ext hw (qcj_r _ _ _) (fun i hi hi2 => ?_)
  have h1 := qcj_c w hp ⟨hi, hi2⟩ hv
  have h2 := qcj_c (qcj w p v) (v := b) hp ⟨hi, hi2⟩ (by omega)
  rcases h2 with h2 | h2
  · rw [h2.2, h2.1]
    exact hb
  · rw [h2.2]
    omega
/-- what is told of a place; where it lies; what a word there becomes -/
noncomputable def qtd (pd cv sw kd : Nat → Int) (s p : Int) : Int := if s = 0 then pd p.toNat else if s = 1 then qbit (cv (p / 32).toNat) (p % 32) else if s = 2 then sw p.toNat else kd p.toNat
def qat (s p : Int) : Int := if s = 0 then 32 + p else if s = 1 then 72 + 2 * (p / 32) + p % 32 / 16 else if s = 2 then p else 192 + p
noncomputable def qwd (m : Nat → Int) (s p v : Int) : Int := if s = 1 then qcj (m (qat s p).toNat) (p % 16) v else v
/-- which places there are -/
def qpl4 (po fo eo s p : Int) : Prop := (s = 0 ∧ 0 ≤ p ∧ p < fo) ∨ (s = 1 ∧ 0 ≤ p ∧ p < 32 * eo) ∨ (s = 2 ∧ 0 ≤ p ∧ p < po) ∨ (s = 3 ∧ 0 ≤ p ∧ p < eo)
/-- the numbers that may change, as the class keeps them -/
def qRm (α : Nat → Nat → Int) (m : Nat → Int) : Prop := (∀ k : Nat, k < 32 → α 20 k = m k) ∧ (∀ k : Nat, k < 40 → α 33 k = m (32 + k)) ∧ (∀ k : Nat, k < 60 → α 35 k = m (192 + k)) ∧ (∀ k : Nat, k < 60 → ∀ p : Int, (0 ≤ p ∧ p < 64) → qbit (α 41 k) p = if p < 32 then qcw m k p else 0) ∧ (∀ k : Nat, k < 252 → -2147483648 ≤ m k ∧ m k ≤ 2147483647)
theorem qat_r {po fo eo s p : Int} (h : qpl4 po fo eo s p) (h1 : po ≤ 32) (h2 : fo ≤ 40) (h3 : eo ≤ 60) : 0 ≤ qat s p ∧ qat s p ≤ 251 := by
  unfold qat
  rcases h with h | h | h | h
  · rw [if_pos h.1]; omega
  · rw [if_neg (by omega), if_pos h.1]; omega
  · rw [if_neg (by omega), if_neg (by omega), if_pos h.1]; omega
  · rw [if_neg (by omega), if_neg (by omega), if_neg (by omega)]; omega
/-- told is v just where the word is as it would become -/
theorem qtd_eq {α : Nat → Nat → Int} {m : Nat → Int} {po fo eo s p v : Int} (hm : qRm α m) (h : qpl4 po fo eo s p) (h1 : po ≤ 32) (h2 : fo ≤ 40) (h3 : eo ≤ 60) (hv : s = 1 → v = 0 ∨ v = 1) : qtd (α 33) (α 41) (α 20) (α 35) s p = v ↔ m (qat s p).toNat = qwd m s p v := by
  obtain ⟨m1, m2, m3, m4, m5⟩ := hm
  unfold qtd qwd
  rcases h with h | h | h | h
  · have e : (qat s p).toNat = 32 + p.toNat := by unfold qat; rw [if_pos h.1]; omega
    rw [if_pos h.1, if_neg (by omega), e, m2 p.toNat (by omega)]
  · have e : (qat s p).toNat = 72 + 2 * (p / 32).toNat + (p % 32 / 16).toNat := by unfold qat; rw [if_neg (by omega), if_pos h.1]; omega
    have e2 := m4 (p / 32).toNat (by omega) (p % 32) (by omega)
    have e3 : qcw m (p / 32).toNat (p % 32) = qbi (m (72 + 2 * (p / 32).toNat + (p % 32 / 16).toNat)) (p % 32 % 16) := rfl
    rw [if_pos (by omega), e3] at e2
    rw [if_neg (by omega), if_pos h.1, if_pos h.1, e, e2, show p % 32 % 16 = p % 16 by omega]
    exact (qcj_eq (m5 _ (by omega)) (by omega) (hv h.1)).symm
  · have e : (qat s p).toNat = p.toNat := by unfold qat; rw [if_neg (by omega), if_neg (by omega), if_pos h.1]
    rw [if_neg (by omega), if_neg (by omega), if_pos h.1, if_neg (by omega), e, m1 p.toNat (by omega)]
  · have e : (qat s p).toNat = 192 + p.toNat := by unfold qat; rw [if_neg (by omega), if_neg (by omega), if_neg (by omega)]; omega
    rw [if_neg (by omega), if_neg (by omega), if_neg (by omega), if_neg (by omega), e, m3 p.toNat (by omega)]
theorem qtd_wd {α : Nat → Nat → Int} {m : Nat → Int} {po fo eo s p : Int} (hm : qRm α m) (h : qpl4 po fo eo s p) (h1 : po ≤ 32) (h2 : fo ≤ 40) (h3 : eo ≤ 60) (hs : ¬ s = 1) : qtd (α 33) (α 41) (α 20) (α 35) s p = m (qat s p).toNat := by
  have h4 := (qtd_eq (v := qtd (α 33) (α 41) (α 20) (α 35) s p) hm h h1 h2 h3 (fun z => absurd z hs)).mp rfl
  unfold qwd at h4
  rw [if_neg hs] at h4
  exact h4.symm
theorem qcw_o {m : Nat → Int} {k j : Nat} {p v : Int} (h : ¬ 72 + 2 * k + (p / 16).toNat = j) : qcw (qzu m j v) k p = qcw m k p := by
  unfold qcw
  rw [show qzu m j v (72 + 2 * k + (p / 16).toNat) = m (72 + 2 * k + (p / 16).toNat) from if_neg h]
/-- a place set, on both sides -/
theorem qRm_set {α α' : Nat → Nat → Int} {m : Nat → Int} {po fo eo s p v : Int} (hm : qRm α m) (h : qpl4 po fo eo s p) (h1 : po ≤ 32) (h2 : fo ≤ 40) (h3 : eo ≤ 60) (hv : s = 1 → v = 0 ∨ v = 1) (hr : -2147483648 ≤ v ∧ v ≤ 2147483647)
    (e33 : α' 33 = if s = 0 then qzu (α 33) p.toNat v else α 33) (e41 : α' 41 = if s = 1 then qzu (α 41) (p / 32).toNat (qcb (α 41 (p / 32).toNat) (p % 32) v) else α 41) (e20 : α' 20 = if s = 2 then qzu (α 20) p.toNat v else α 20) (e35 : α' 35 = if s = 3 then qzu (α 35) p.toNat v else α 35) : qRm α' (qzu m (qat s p).toNat (qwd m s p v)) := by
  obtain ⟨m1, m2, m3, m4, m5⟩ := hm
  have hz : ∀ (f : Nat → Int) (a b : Nat) (x : Int), qzu f a x b = if b = a then x else f b := fun _ _ _ _ => rfl
  have hrg : ∀ k : Nat, k < 252 → -2147483648 ≤ qzu m (qat s p).toNat (qwd m s p v) k ∧ qzu m (qat s p).toNat (qwd m s p v) k ≤ 2147483647 := fun k hk => by
    rw [hz]
    split
    · unfold qwd
      split
      · exact qcj_r _ _ _
      · exact hr
    · exact m5 k hk
  rcases h with h | h | h | h
  · have e : (qat s p).toNat = 32 + p.toNat := by unfold qat; rw [if_pos h.1]; omega
    have ew : qwd m s p v = v := if_neg (by omega)
    rw [if_pos h.1] at e33
    rw [if_neg (by omega)] at e41 e20 e35
    rw [e, ew] at hrg ⊢
    refine ⟨fun k hk => ?_, fun k hk => ?_, fun k hk => ?_, fun k hk q hq => ?_, hrg⟩
    · rw [e20, hz, if_neg (by omega)]; exact m1 k hk
    · rw [e33, hz, hz, m2 k hk]
      by_cases c : k = p.toNat
      · rw [if_pos c, if_pos (by omega)]
      · rw [if_neg c, if_neg (by omega)]
    · rw [e35, hz, if_neg (by omega)]; exact m3 k hk
    · rw [e41, m4 k hk q hq]
      by_cases d : q < 32
      · rw [if_pos d, if_pos d, qcw_o (by omega)]
      · rw [if_neg d, if_neg d]
  · have e : (qat s p).toNat = 72 + 2 * (p / 32).toNat + (p % 32 / 16).toNat := by unfold qat; rw [if_neg (by omega), if_pos h.1]; omega
    have ew : qwd m s p v = qcj (m (72 + 2 * (p / 32).toNat + (p % 32 / 16).toNat)) (p % 16) v := by
      unfold qwd
      rw [if_pos h.1, e]
    rw [if_pos h.1] at e41
    rw [if_neg (by omega)] at e33 e20 e35
    rw [e, ew] at hrg ⊢
    refine ⟨fun k hk => ?_, fun k hk => ?_, fun k hk => ?_, fun k hk q hq => ?_, hrg⟩
    · rw [e20, hz, if_neg (by omega)]; exact m1 k hk
    · rw [e33, hz, if_neg (by omega)]; exact m2 k hk
    · rw [e35, hz, if_neg (by omega)]; exact m3 k hk
    · rw [e41, hz]
      have g4 := m4 k hk q hq
      by_cases c : k = (p / 32).toNat
      · rw [if_pos c]
        have b1 := qcb_c (α 41 (p / 32).toNat) (p := p % 32) (i := q) (by omega) hq (hv h.1)
        rw [← c] at b1 ⊢
        by_cases d : q < 32
        · rw [if_pos d] at g4 ⊢
          by_cases f : 72 + 2 * k + (q / 16).toNat = 72 + 2 * k + (p % 32 / 16).toNat
          · have g5 : qcw (qzu m (72 + 2 * k + (p % 32 / 16).toNat) (qcj (m (72 + 2 * k + (p % 32 / 16).toNat)) (p % 16) v)) k q = qbi (qcj (m (72 + 2 * k + (p % 32 / 16).toNat)) (p % 16) v) (q % 16) := by
              unfold qcw
              rw [hz, if_pos f]
            have g6 : qcw m k q = qbi (m (72 + 2 * k + (p % 32 / 16).toNat)) (q % 16) := by
              unfold qcw
              rw [f]
            have b2 := qcj_c (m (72 + 2 * k + (p % 32 / 16).toNat)) (p := p % 16) (i := q % 16) (by omega) (by omega) (hv h.1)
            rw [g5]
            rcases b1 with b1 | b1
            · rcases b2 with b2 | b2
              · rw [b1.2, b2.2]
              · exact absurd (show q % 16 = p % 16 by omega) b2.1
            · rcases b2 with b2 | b2
              · exact absurd (show q = p % 32 by omega) b1.1
              · rw [b1.2, b2.2, g4, g6]
          · rw [qcw_o f, ← g4]
            rcases b1 with b1 | b1
            · exact absurd (by rw [b1.1]) f
            · exact b1.2
        · rw [if_neg d] at g4 ⊢
          rcases b1 with b1 | b1
          · exact absurd b1.1 (by omega)
          · rw [b1.2, g4]
      · rw [if_neg c, g4]
        by_cases d : q < 32
        · rw [if_pos d, if_pos d, qcw_o (by omega)]
        · rw [if_neg d, if_neg d]
  · have e : (qat s p).toNat = p.toNat := by unfold qat; rw [if_neg (by omega), if_neg (by omega), if_pos h.1]
    have ew : qwd m s p v = v := if_neg (by omega)
    rw [if_pos h.1] at e20
    rw [if_neg (by omega)] at e41 e33 e35
    rw [e, ew] at hrg ⊢
    refine ⟨fun k hk => ?_, fun k hk => ?_, fun k hk => ?_, fun k hk q hq => ?_, hrg⟩
    · rw [e20, hz, hz, m1 k hk]
    · rw [e33, hz, if_neg (by omega)]; exact m2 k hk
    · rw [e35, hz, if_neg (by omega)]; exact m3 k hk
    · rw [e41, m4 k hk q hq]
      by_cases d : q < 32
      · rw [if_pos d, if_pos d, qcw_o (by omega)]
      · rw [if_neg d, if_neg d]
  · have e : (qat s p).toNat = 192 + p.toNat := by unfold qat; rw [if_neg (by omega), if_neg (by omega), if_neg (by omega)]; omega
    have ew : qwd m s p v = v := if_neg (by omega)
    rw [if_pos h.1] at e35
    rw [if_neg (by omega)] at e41 e33 e20
    rw [e, ew] at hrg ⊢
    refine ⟨fun k hk => ?_, fun k hk => ?_, fun k hk => ?_, fun k hk q hq => ?_, hrg⟩
    · rw [e20, hz, if_neg (by omega)]; exact m1 k hk
    · rw [e33, hz, if_neg (by omega)]; exact m2 k hk
    · rw [e35, hz, hz, m3 k hk]
      by_cases c : k = p.toNat
      · rw [if_pos c, if_pos (by omega)]
      · rw [if_neg c, if_neg (by omega)]
    · rw [e41, m4 k hk q hq]
      by_cases d : q < 32
      · rw [if_pos d, if_pos d, qcw_o (by omega)]
      · rw [if_neg d, if_neg d]
/-- the last hour of a peace, by the kind that it has -/
def qUn (α : Nat → Nat → Int) (k : Nat) (b : Int) : Prop := α 40 k = α 38 k + (if b = 2 then α 39 k else 0)
/-- one change, as the class and as the reference keeps it -/
def qEn (T : Nat → Int → Prop) (po fo eo s p b a t w i : Int) : Prop := qpl4 po fo eo s p ∧ t = qat s p ∧ (s = 1 → (b = 0 ∨ b = 1) ∧ (a = 0 ∨ a = 1) ∧ i = qcj w (p % 16) a ∧ w = qcj i (p % 16) b) ∧ (¬ s = 1 → w = b ∧ i = a) ∧ (s = 3 → a = 6 ∧ (0 ≤ b ∧ b ≤ 5) ∧ T p.toNat b)
theorem qEn_up {T : Nat → Int → Prop} {po fo eo po' fo' eo' s p b a t w i : Int} (h : qEn T po fo eo s p b a t w i) (h1 : po ≤ po') (h2 : fo ≤ fo') (h3 : eo ≤ eo') : qEn T po' fo' eo' s p b a t w i := by
  refine ⟨?_, h.2⟩
  have h4 := h.1
  unfold qpl4 at h4 ⊢
  omega
/-- the class's changes and those of h -/
def qHq (σ α : Nat → Nat → Int) (h : qHS) : Prop := (qRm α h.1 ∧ ∀ k : Nat, (k : Int) < σ 34 7 → α 35 k = 6 ∨ ((0 ≤ α 35 k ∧ α 35 k ≤ 5) ∧ qUn α k (α 35 k))) ∧ (σ 76 7 = h.2.2.2.2.1 ∧ σ 76 8 = h.2.2.2.2.2) ∧ (0 ≤ h.2.2.2.2.1 ∧ h.2.2.2.2.1 ≤ h.2.2.2.2.2 ∧ h.2.2.2.2.2 ≤ 40) ∧ ∀ j : Nat, (j : Int) < h.2.2.2.2.2 → qEn (qUn α) (σ 17 6) (σ 27 7) (σ 34 7) (α 77 j) (α 78 j) (α 79 j) (α 80 j) (h.2.1 j) (h.2.2.1 j) (h.2.2.2.1 j)
theorem qfo_c (d : Int) (f : Nat → Int) (j : Nat) (hj : (j : Int) < qdo d) : qfo d f j = f (if 40 ≤ d then j + 1 else j) := by
  unfold qfo
  by_cases c : 40 ≤ d
  · have hq : qdo d = 39 := if_pos c
    rw [if_pos c, if_pos c]
    exact if_pos (by omega)
  · rw [if_neg c, if_neg c]
theorem qHq_ch {σ α σ' α' : Nat → Nat → Int} {h : qHS} {s p v : Int} (hq : qHq σ α h) (hp : qpl4 (σ 17 6) (σ 27 7) (σ 34 7) s p) (h1 : σ 17 6 ≤ 32) (h2 : σ 27 7 ≤ 40) (h3 : σ 34 7 ≤ 60) (hv : s = 1 → v = 0 ∨ v = 1) (h6 : s = 3 → v = 6) (hr : -2147483648 ≤ v ∧ v ≤ 2147483647) (hne : ¬ qtd (α 33) (α 41) (α 20) (α 35) s p = v)
    (f1 : σ' 17 6 = σ 17 6) (f2 : σ' 27 7 = σ 27 7) (f3 : σ' 34 7 = σ 34 7) (f4 : α' 38 = α 38) (f5 : α' 39 = α 39) (f6 : α' 40 = α 40) (e7 : σ' 76 7 = qdo (σ 76 7) + 1) (e8 : σ' 76 8 = qdo (σ 76 7) + 1)
    (e77 : α' 77 = qzu (qfo (σ 76 7) (α 77)) (qdo (σ 76 7)).toNat s) (e78 : α' 78 = qzu (qfo (σ 76 7) (α 78)) (qdo (σ 76 7)).toNat p) (e79 : α' 79 = qzu (qfo (σ 76 7) (α 79)) (qdo (σ 76 7)).toNat (qtd (α 33) (α 41) (α 20) (α 35) s p)) (e80 : α' 80 = qzu (qfo (σ 76 7) (α 80)) (qdo (σ 76 7)).toNat v)
    (e33 : α' 33 = if s = 0 then qzu (α 33) p.toNat v else α 33) (e41 : α' 41 = if s = 1 then qzu (α 41) (p / 32).toNat (qcb (α 41 (p / 32).toNat) (p % 32) v) else α 41) (e20 : α' 20 = if s = 2 then qzu (α 20) p.toNat v else α 20) (e35 : α' 35 = if s = 3 then qzu (α 35) p.toNat v else α 35) : qHq σ' α' (qbec h (qat s p) (qwd h.1 s p v)) := by
  obtain ⟨⟨hm, hU⟩, ⟨g7, g8⟩, hd, hE⟩ := hq
  have hT : qUn α' = qUn α := by unfold qUn; rw [f4, f5, f6]
  have hne2 : ¬ h.1 (qat s p).toNat = qwd h.1 s p v := fun z => hne ((qtd_eq hm hp h1 h2 h3 hv).mpr z)
  have hb : qbec h (qat s p) (qwd h.1 s p v) = (qzu h.1 (qat s p).toNat (qwd h.1 s p v), qzu (qfo h.2.2.2.2.1 h.2.1) (qdo h.2.2.2.2.1).toNat (qat s p), qzu (qfo h.2.2.2.2.1 h.2.2.1) (qdo h.2.2.2.2.1).toNat (h.1 (qat s p).toNat), qzu (qfo h.2.2.2.2.1 h.2.2.2.1) (qdo h.2.2.2.2.1).toNat (qwd h.1 s p v), qdo h.2.2.2.2.1 + 1, qdo h.2.2.2.2.1 + 1) := if_neg hne2
  have hdo : 0 ≤ qdo h.2.2.2.2.1 ∧ qdo h.2.2.2.2.1 ≤ 39 := by unfold qdo; split <;> omega
  rw [hb]
  refine ⟨⟨qRm_set hm hp h1 h2 h3 hv hr e33 e41 e20 e35, fun k hk => ?_⟩, ⟨by rw [e7, g7], by rw [e8, g7]⟩, ⟨by show 0 ≤ qdo h.2.2.2.2.1 + 1; omega, Int.le_refl _, by show qdo h.2.2.2.2.1 + 1 ≤ 40; omega⟩, fun j hj => ?_⟩
  · rw [hT, e35]
    by_cases c : s = 3
    · rw [if_pos c]
      by_cases d : k = p.toNat
      · exact Or.inl ((if_pos d).trans (h6 c))
      · rw [show qzu (α 35) p.toNat v k = α 35 k from if_neg d]
        exact hU k (by omega)
    · rw [if_neg c]
      exact hU k (by omega)
  have hj2 : (j : Int) < qdo h.2.2.2.2.1 + 1 := hj
  show qEn (qUn α') (σ' 17 6) (σ' 27 7) (σ' 34 7) (α' 77 j) (α' 78 j) (α' 79 j) (α' 80 j) (qzu (qfo h.2.2.2.2.1 h.2.1) (qdo h.2.2.2.2.1).toNat (qat s p) j) (qzu (qfo h.2.2.2.2.1 h.2.2.1) (qdo h.2.2.2.2.1).toNat (h.1 (qat s p).toNat) j) (qzu (qfo h.2.2.2.2.1 h.2.2.2.1) (qdo h.2.2.2.2.1).toNat (qwd h.1 s p v) j)
  rw [hT, f1, f2, f3, e77, e78, e79, e80, g7]
  have hz : ∀ (f : Nat → Int) (a b : Nat) (x : Int), qzu f a x b = if b = a then x else f b := fun _ _ _ _ => rfl
  simp only [hz]
  by_cases c : j = (qdo h.2.2.2.2.1).toNat
  · simp only [if_pos c]
    refine ⟨hp, rfl, fun hs => ?_, fun hs => ?_, fun hs => ?_⟩
    · have ht : qtd (α 33) (α 41) (α 20) (α 35) s p = qbi (h.1 (qat s p).toNat) (p % 16) := by
        rcases hp with hp | hp | hp | hp
        · omega
        · have e : (qat s p).toNat = 72 + 2 * (p / 32).toNat + (p % 32 / 16).toNat := by unfold qat; rw [if_neg (by omega), if_pos hp.1]; omega
          have e2 := hm.2.2.2.1 (p / 32).toNat (by omega) (p % 32) (by omega)
          have e3 : qcw h.1 (p / 32).toNat (p % 32) = qbi (h.1 (72 + 2 * (p / 32).toNat + (p % 32 / 16).toNat)) (p % 32 % 16) := rfl
          rw [if_pos (by omega), e3, show p % 32 % 16 = p % 16 by omega, ← e] at e2
          unfold qtd
          rw [if_neg (by omega), if_pos hs]
          exact e2
        · omega
        · omega
      have hb2 := qbi_r (h.1 (qat s p).toNat) (p % 16)
      have hw : qwd h.1 s p v = qcj (h.1 (qat s p).toNat) (p % 16) v := if_pos hs
      refine ⟨by rw [ht]; omega, hv hs, hw, ?_⟩
      rw [hw, ht]
      exact qcj_back (hm.2.2.2.2 _ (by have := qat_r hp h1 h2 h3; omega)) (by omega) (hv hs) rfl
    · exact ⟨(qtd_wd hm hp h1 h2 h3 hs).symm, if_neg hs⟩
    · have h7 := h6 hs
      have e : qtd (α 33) (α 41) (α 20) (α 35) s p = α 35 p.toNat := by
        unfold qtd
        rw [if_neg (by omega), if_neg (by omega), if_neg (by omega)]
      rw [e] at hne ⊢
      have hk : ((p.toNat : Nat) : Int) < σ 34 7 := by rcases hp with hp | hp | hp | hp <;> omega
      rcases hU p.toNat hk with hu | hu
      · omega
      · exact ⟨h7, hu.1, hu.2⟩
  · simp only [if_neg c]
    have hj3 : (j : Int) < qdo h.2.2.2.2.1 := by omega
    simp only [qfo_c _ _ j hj3]
    refine hE _ ?_
    by_cases d : 40 ≤ h.2.2.2.2.1
    · have hq : qdo h.2.2.2.2.1 = 39 := if_pos d
      rw [if_pos d]
      omega
    · have hq : qdo h.2.2.2.2.1 = h.2.2.2.2.1 := if_neg d
      rw [if_neg d]
      omega
theorem qHq_eq {σ α : Nat → Nat → Int} {h : qHS} {s p v : Int} (hq : qHq σ α h) (hp : qpl4 (σ 17 6) (σ 27 7) (σ 34 7) s p) (h1 : σ 17 6 ≤ 32) (h2 : σ 27 7 ≤ 40) (h3 : σ 34 7 ≤ 60) (hv : s = 1 → v = 0 ∨ v = 1) (he : qtd (α 33) (α 41) (α 20) (α 35) s p = v) : qHq σ α (qbec h (qat s p) (qwd h.1 s p v)) := by
  rw [show qbec h (qat s p) (qwd h.1 s p v) = h from if_pos ((qtd_eq hq.1.1 hp h1 h2 h3 hv).mp he)]
  exact hq
/-- the chain of changes: back from now, and forward -/
def qbk (t w i : Nat → Int) : Nat → (Nat → Int) → Prop
  | 0, _ => True
  | d + 1, m => m (t d).toNat = i d ∧ qbk t w i d (qzu m (t d).toNat (w d))
def qfw (t w i : Nat → Int) : Nat → Nat → (Nat → Int) → Prop
  | 0, _, _ => True
  | n + 1, d, m => m (t d).toNat = w d ∧ qfw t w i n (d + 1) (qzu m (t d).toNat (i d))
def qCh (h : qHS) : Prop := qbk h.2.1 h.2.2.1 h.2.2.2.1 h.2.2.2.2.1.toNat h.1 ∧ qfw h.2.1 h.2.2.1 h.2.2.2.1 (h.2.2.2.2.2 - h.2.2.2.2.1).toNat h.2.2.2.2.1.toNat h.1
theorem qzu_b {f : Nat → Int} {k : Nat} {a b : Int} (h : b = f k) : qzu (qzu f k a) k b = f := by
  funext j
  unfold qzu
  by_cases c : j = k
  · rw [if_pos c, c, h]
  · rw [if_neg c, if_neg c]
theorem qbk_eq {t w i t' w' i' : Nat → Int} : ∀ (d : Nat) (m : Nat → Int), (∀ j : Nat, j < d → t' j = t j ∧ w' j = w j ∧ i' j = i j) → qbk t w i d m → qbk t' w' i' d m
  | 0, _, _, _ => trivial
  | d + 1, m, e, h => by
    have e1 := e d (by omega)
    refine ⟨by rw [e1.1, e1.2.2]; exact h.1, ?_⟩
    rw [e1.1, e1.2.1]
    exact qbk_eq d _ (fun j hj => e j (by omega)) h.2
theorem qbk_sh {t w i : Nat → Int} : ∀ (d : Nat) (m : Nat → Int), qbk t w i (d + 1) m → qbk (fun j => t (j + 1)) (fun j => w (j + 1)) (fun j => i (j + 1)) d m
  | 0, _, _ => trivial
  | d + 1, m, h => ⟨h.1, qbk_sh d _ h.2⟩
theorem qCh_bec {h : qHS} {a w : Int} (hd : 0 ≤ h.2.2.2.2.1 ∧ h.2.2.2.2.1 ≤ 40) (hc : qCh h) : qCh (qbec h a w) := by
  by_cases e : h.1 a.toNat = w
  · rw [show qbec h a w = h from if_pos e]
    exact hc
  · have hb : qbec h a w = (qzu h.1 a.toNat w, qzu (qfo h.2.2.2.2.1 h.2.1) (qdo h.2.2.2.2.1).toNat a, qzu (qfo h.2.2.2.2.1 h.2.2.1) (qdo h.2.2.2.2.1).toNat (h.1 a.toNat), qzu (qfo h.2.2.2.2.1 h.2.2.2.1) (qdo h.2.2.2.2.1).toNat w, qdo h.2.2.2.2.1 + 1, qdo h.2.2.2.2.1 + 1) := if_neg e
    have hdo : 0 ≤ qdo h.2.2.2.2.1 ∧ qdo h.2.2.2.2.1 ≤ 39 := by unfold qdo; split <;> omega
    rw [hb]
    refine ⟨?_, ?_⟩
    · show qbk _ _ _ (qdo h.2.2.2.2.1 + 1).toNat (qzu h.1 a.toNat w)
      rw [show (qdo h.2.2.2.2.1 + 1).toNat = (qdo h.2.2.2.2.1).toNat + 1 by omega]
      refine ⟨?_, ?_⟩
      · show qzu h.1 a.toNat w (qzu (qfo h.2.2.2.2.1 h.2.1) (qdo h.2.2.2.2.1).toNat a (qdo h.2.2.2.2.1).toNat).toNat = qzu (qfo h.2.2.2.2.1 h.2.2.2.1) (qdo h.2.2.2.2.1).toNat w (qdo h.2.2.2.2.1).toNat
        rw [qzu_at, qzu_at]
        exact (qzu_at _ _ _).symm
      · show qbk (qzu (qfo h.2.2.2.2.1 h.2.1) (qdo h.2.2.2.2.1).toNat a) (qzu (qfo h.2.2.2.2.1 h.2.2.1) (qdo h.2.2.2.2.1).toNat (h.1 a.toNat)) (qzu (qfo h.2.2.2.2.1 h.2.2.2.1) (qdo h.2.2.2.2.1).toNat w) (qdo h.2.2.2.2.1).toNat (qzu (qzu h.1 a.toNat w) (qzu (qfo h.2.2.2.2.1 h.2.1) (qdo h.2.2.2.2.1).toNat a (qdo h.2.2.2.2.1).toNat).toNat (qzu (qfo h.2.2.2.2.1 h.2.2.1) (qdo h.2.2.2.2.1).toNat (h.1 a.toNat) (qdo h.2.2.2.2.1).toNat))
        rw [qzu_at, qzu_at, qzu_b rfl]
        have hz : ∀ (f : Nat → Int) (x : Int) (j : Nat), j < (qdo h.2.2.2.2.1).toNat → qzu (qfo h.2.2.2.2.1 f) (qdo h.2.2.2.2.1).toNat x j = f (if 40 ≤ h.2.2.2.2.1 then j + 1 else j) := fun f x j hj => by
          rw [show qzu (qfo h.2.2.2.2.1 f) (qdo h.2.2.2.2.1).toNat x j = qfo h.2.2.2.2.1 f j from if_neg (by omega)]
          exact qfo_c _ _ j (by omega)
        have h1 := hc.1
        by_cases d : 40 ≤ h.2.2.2.2.1
        · have hq : qdo h.2.2.2.2.1 = 39 := if_pos d
          rw [show h.2.2.2.2.1.toNat = (qdo h.2.2.2.2.1).toNat + 1 by omega] at h1
          refine qbk_eq _ _ (fun j hj => ?_) (qbk_sh _ _ h1)
          rw [hz _ _ j hj, hz _ _ j hj, hz _ _ j hj, if_pos d]
          exact ⟨rfl, rfl, rfl⟩
        · have hq : qdo h.2.2.2.2.1 = h.2.2.2.2.1 := if_neg d
          rw [show h.2.2.2.2.1.toNat = (qdo h.2.2.2.2.1).toNat by omega] at h1
          refine qbk_eq _ _ (fun j hj => ?_) h1
          rw [hz _ _ j hj, hz _ _ j hj, hz _ _ j hj, if_neg d]
          exact ⟨rfl, rfl, rfl⟩
    · show qfw _ _ _ (qdo h.2.2.2.2.1 + 1 - (qdo h.2.2.2.2.1 + 1)).toNat _ _
      rw [show (qdo h.2.2.2.2.1 + 1 - (qdo h.2.2.2.2.1 + 1)).toNat = 0 by omega]
      trivial
/-- undone, done again -/
def qund (h : qHS) : qHS := (qzu h.1 (h.2.1 (h.2.2.2.2.1 - 1).toNat).toNat (h.2.2.1 (h.2.2.2.2.1 - 1).toNat), h.2.1, h.2.2.1, h.2.2.2.1, h.2.2.2.2.1 - 1, h.2.2.2.2.2)
def qred (h : qHS) : qHS := (qzu h.1 (h.2.1 h.2.2.2.2.1.toNat).toNat (h.2.2.2.1 h.2.2.2.2.1.toNat), h.2.1, h.2.2.1, h.2.2.2.1, h.2.2.2.2.1 + 1, h.2.2.2.2.2)
theorem qCh_und {h : qHS} (hd : 0 < h.2.2.2.2.1 ∧ h.2.2.2.2.1 ≤ h.2.2.2.2.2) (hc : qCh h) : h.1 (h.2.1 (h.2.2.2.2.1 - 1).toNat).toNat = h.2.2.2.1 (h.2.2.2.2.1 - 1).toNat ∧ qCh (qund h) := by
  have h1 := hc.1
  rw [show h.2.2.2.2.1.toNat = (h.2.2.2.2.1 - 1).toNat + 1 by omega] at h1
  refine ⟨h1.1, h1.2, ?_⟩
  show qfw h.2.1 h.2.2.1 h.2.2.2.1 (h.2.2.2.2.2 - (h.2.2.2.2.1 - 1)).toNat (h.2.2.2.2.1 - 1).toNat (qzu h.1 (h.2.1 (h.2.2.2.2.1 - 1).toNat).toNat (h.2.2.1 (h.2.2.2.2.1 - 1).toNat))
  rw [show (h.2.2.2.2.2 - (h.2.2.2.2.1 - 1)).toNat = (h.2.2.2.2.2 - h.2.2.2.2.1).toNat + 1 by omega]
  refine ⟨qzu_at _ _ _, ?_⟩
  rw [qzu_b h1.1.symm, show (h.2.2.2.2.1 - 1).toNat + 1 = h.2.2.2.2.1.toNat by omega]
  exact hc.2
theorem qCh_red {h : qHS} (hd : 0 ≤ h.2.2.2.2.1 ∧ h.2.2.2.2.1 < h.2.2.2.2.2) (hc : qCh h) : h.1 (h.2.1 h.2.2.2.2.1.toNat).toNat = h.2.2.1 h.2.2.2.2.1.toNat ∧ qCh (qred h) := by
  have h1 := hc.2
  rw [show (h.2.2.2.2.2 - h.2.2.2.2.1).toNat = (h.2.2.2.2.2 - (h.2.2.2.2.1 + 1)).toNat + 1 by omega] at h1
  refine ⟨h1.1, ?_, ?_⟩
  · show qbk h.2.1 h.2.2.1 h.2.2.2.1 (h.2.2.2.2.1 + 1).toNat (qzu h.1 (h.2.1 h.2.2.2.2.1.toNat).toNat (h.2.2.2.1 h.2.2.2.2.1.toNat))
    rw [show (h.2.2.2.2.1 + 1).toNat = h.2.2.2.2.1.toNat + 1 by omega]
    refine ⟨qzu_at _ _ _, ?_⟩
    rw [qzu_b h1.1.symm]
    exact hc.1
  · show qfw h.2.1 h.2.2.1 h.2.2.2.1 (h.2.2.2.2.2 - (h.2.2.2.2.1 + 1)).toNat (h.2.2.2.2.1 + 1).toNat (qzu h.1 (h.2.1 h.2.2.2.2.1.toNat).toNat (h.2.2.2.1 h.2.2.2.2.1.toNat))
    rw [show (h.2.2.2.2.1 + 1).toNat = h.2.2.2.2.1.toNat + 1 by omega]
    exact h1.2
theorem qzu_cm {m : Nat → Int} {a b : Nat} {x y : Int} (h : ¬ a = b) : qzu (qzu m a x) b y = qzu (qzu m b y) a x := by
  funext j
  unfold qzu
  by_cases c : j = b
  · rw [if_pos c, if_neg (by omega), if_pos c]
  · rw [if_neg c]
    by_cases d : j = a
    · rw [if_pos d, if_pos d]
    · rw [if_neg d, if_neg d, if_neg c]
theorem qbk_fresh {t w i : Nat → Int} {a : Nat} {x : Int} : ∀ (d : Nat) (m : Nat → Int), (∀ j : Nat, j < d → ¬ a = (t j).toNat) → qbk t w i d m → qbk t w i d (qzu m a x)
  | 0, _, _, _ => trivial
  | d + 1, m, e, h => by
    have e1 := e d (by omega)
    refine ⟨(if_neg (fun z => e1 z.symm)).trans h.1, ?_⟩
    rw [qzu_cm e1]
    exact qbk_fresh d _ (fun j hj => e j (by omega)) h.2
theorem qfw_fresh {t w i : Nat → Int} {a : Nat} {x : Int} : ∀ (n d : Nat) (m : Nat → Int), (∀ j : Nat, d ≤ j → j < d + n → ¬ a = (t j).toNat) → qfw t w i n d m → qfw t w i n d (qzu m a x)
  | 0, _, _, _, _ => trivial
  | n + 1, d, m, e, h => by
    have e1 := e d (by omega) (by omega)
    refine ⟨(if_neg (fun z => e1 z.symm)).trans h.1, ?_⟩
    rw [qzu_cm e1]
    exact qfw_fresh n (d + 1) _ (fun j h1 h2 => e j (by omega) (by omega)) h.2
theorem qCh_fresh {h : qHS} {a : Nat} {x : Int} (hd : 0 ≤ h.2.2.2.2.1 ∧ h.2.2.2.2.1 ≤ h.2.2.2.2.2) (e : ∀ j : Nat, (j : Int) < h.2.2.2.2.2 → ¬ a = (h.2.1 j).toNat) (hc : qCh h) : qCh (qzu h.1 a x, h.2) :=
  ⟨qbk_fresh _ _ (fun j hj => e j (by have h3 : j < h.2.2.2.2.1.toNat := hj; omega)) hc.1, qfw_fresh _ _ _ (fun j h1 h2 => e j (by have h3 : j < h.2.2.2.2.1.toNat + (h.2.2.2.2.2 - h.2.2.2.2.1).toNat := h2; omega)) hc.2⟩
theorem qHq_und {σ α σ' α' : Nat → Nat → Int} {h : qHS} (hq : qHq σ α h) (hc : qCh h) (h1 : σ 17 6 ≤ 32) (h2 : σ 27 7 ≤ 40) (h3 : σ 34 7 ≤ 60) (hd : 0 < σ 76 7)
    (f1 : σ' 17 6 = σ 17 6) (f2 : σ' 27 7 = σ 27 7) (f3 : σ' 34 7 = σ 34 7) (f4 : α' 38 = α 38) (f5 : α' 39 = α 39) (f6 : α' 40 = α 40) (e7 : σ' 76 7 = σ 76 7 - 1) (e8 : σ' 76 8 = σ 76 8) (e77 : α' 77 = α 77) (e78 : α' 78 = α 78) (e79 : α' 79 = α 79) (e80 : α' 80 = α 80) (hr : -2147483648 ≤ α 79 (σ 76 7 - 1).toNat ∧ α 79 (σ 76 7 - 1).toNat ≤ 2147483647)
    (e33 : α' 33 = if α 77 (σ 76 7 - 1).toNat = 0 then qzu (α 33) (α 78 (σ 76 7 - 1).toNat).toNat (α 79 (σ 76 7 - 1).toNat) else α 33)
    (e41 : α' 41 = if α 77 (σ 76 7 - 1).toNat = 1 then qzu (α 41) (α 78 (σ 76 7 - 1).toNat / 32).toNat (qcb (α 41 (α 78 (σ 76 7 - 1).toNat / 32).toNat) (α 78 (σ 76 7 - 1).toNat % 32) (α 79 (σ 76 7 - 1).toNat)) else α 41)
    (e20 : α' 20 = if α 77 (σ 76 7 - 1).toNat = 2 then qzu (α 20) (α 78 (σ 76 7 - 1).toNat).toNat (α 79 (σ 76 7 - 1).toNat) else α 20)
    (e35 : α' 35 = if α 77 (σ 76 7 - 1).toNat = 3 then qzu (α 35) (α 78 (σ 76 7 - 1).toNat).toNat (α 79 (σ 76 7 - 1).toNat) else α 35) : qHq σ' α' (qund h) := by
  obtain ⟨⟨hm, hU⟩, ⟨g7, g8⟩, hdk, hE⟩ := hq
  have hT : qUn α' = qUn α := by unfold qUn; rw [f4, f5, f6]
  have hen := hE (σ 76 7 - 1).toNat (by omega)
  have hch := (qCh_und (by omega) hc).1
  rw [← g7] at hch
  have hw : qwd h.1 (α 77 (σ 76 7 - 1).toNat) (α 78 (σ 76 7 - 1).toNat) (α 79 (σ 76 7 - 1).toNat) = h.2.2.1 (σ 76 7 - 1).toNat := by
    unfold qwd
    by_cases c : α 77 (σ 76 7 - 1).toNat = 1
    · rw [if_pos c, ← hen.2.1, hch]
      exact (hen.2.2.1 c).2.2.2.symm
    · rw [if_neg c]
      exact (hen.2.2.2.1 c).1.symm
  have hs := qRm_set hm hen.1 h1 h2 h3 (fun z => (hen.2.2.1 z).1) hr e33 e41 e20 e35
  rw [hw, ← hen.2.1, g7] at hs
  refine ⟨⟨hs, fun k hk => ?_⟩, ⟨by rw [e7, g7]; rfl, by rw [e8, g8]; rfl⟩, ⟨by show 0 ≤ h.2.2.2.2.1 - 1; omega, by show h.2.2.2.2.1 - 1 ≤ h.2.2.2.2.2; omega, hdk.2.2⟩, fun j hj => ?_⟩
  · rw [hT, e35]
    by_cases c : α 77 (σ 76 7 - 1).toNat = 3
    · rw [if_pos c]
      have h5 := hen.2.2.2.2 c
      by_cases d : k = (α 78 (σ 76 7 - 1).toNat).toNat
      · rw [show qzu (α 35) (α 78 (σ 76 7 - 1).toNat).toNat (α 79 (σ 76 7 - 1).toNat) k = α 79 (σ 76 7 - 1).toNat from if_pos d, d]
        exact Or.inr ⟨h5.2.1, h5.2.2⟩
      · rw [show qzu (α 35) (α 78 (σ 76 7 - 1).toNat).toNat (α 79 (σ 76 7 - 1).toNat) k = α 35 k from if_neg d]
        exact hU k (by omega)
    · rw [if_neg c]
      exact hU k (by omega)
  · rw [hT, f1, f2, f3, e77, e78, e79, e80]
    exact hE j hj
theorem qHq_red {σ α σ' α' : Nat → Nat → Int} {h : qHS} (hq : qHq σ α h) (hc : qCh h) (h1 : σ 17 6 ≤ 32) (h2 : σ 27 7 ≤ 40) (h3 : σ 34 7 ≤ 60) (hd : σ 76 7 < σ 76 8)
    (f1 : σ' 17 6 = σ 17 6) (f2 : σ' 27 7 = σ 27 7) (f3 : σ' 34 7 = σ 34 7) (f4 : α' 38 = α 38) (f5 : α' 39 = α 39) (f6 : α' 40 = α 40) (e7 : σ' 76 7 = σ 76 7 + 1) (e8 : σ' 76 8 = σ 76 8) (e77 : α' 77 = α 77) (e78 : α' 78 = α 78) (e79 : α' 79 = α 79) (e80 : α' 80 = α 80) (hr : -2147483648 ≤ α 80 (σ 76 7).toNat ∧ α 80 (σ 76 7).toNat ≤ 2147483647)
    (e33 : α' 33 = if α 77 (σ 76 7).toNat = 0 then qzu (α 33) (α 78 (σ 76 7).toNat).toNat (α 80 (σ 76 7).toNat) else α 33)
    (e41 : α' 41 = if α 77 (σ 76 7).toNat = 1 then qzu (α 41) (α 78 (σ 76 7).toNat / 32).toNat (qcb (α 41 (α 78 (σ 76 7).toNat / 32).toNat) (α 78 (σ 76 7).toNat % 32) (α 80 (σ 76 7).toNat)) else α 41)
    (e20 : α' 20 = if α 77 (σ 76 7).toNat = 2 then qzu (α 20) (α 78 (σ 76 7).toNat).toNat (α 80 (σ 76 7).toNat) else α 20)
    (e35 : α' 35 = if α 77 (σ 76 7).toNat = 3 then qzu (α 35) (α 78 (σ 76 7).toNat).toNat (α 80 (σ 76 7).toNat) else α 35) : qHq σ' α' (qred h) := by
  obtain ⟨⟨hm, hU⟩, ⟨g7, g8⟩, hdk, hE⟩ := hq
  have hT : qUn α' = qUn α := by unfold qUn; rw [f4, f5, f6]
  have hen := hE (σ 76 7).toNat (by omega)
  have hch := (qCh_red (by omega) hc).1
  rw [← g7] at hch
  have hw : qwd h.1 (α 77 (σ 76 7).toNat) (α 78 (σ 76 7).toNat) (α 80 (σ 76 7).toNat) = h.2.2.2.1 (σ 76 7).toNat := by
    unfold qwd
    by_cases c : α 77 (σ 76 7).toNat = 1
    · rw [if_pos c, ← hen.2.1, hch]
      exact (hen.2.2.1 c).2.2.1.symm
    · rw [if_neg c]
      exact (hen.2.2.2.1 c).2.symm
  have hs := qRm_set hm hen.1 h1 h2 h3 (fun z => (hen.2.2.1 z).2.1) hr e33 e41 e20 e35
  rw [hw, ← hen.2.1, g7] at hs
  refine ⟨⟨hs, fun k hk => ?_⟩, ⟨by rw [e7, g7]; rfl, by rw [e8, g8]; rfl⟩, ⟨by show 0 ≤ h.2.2.2.2.1 + 1; omega, by show h.2.2.2.2.1 + 1 ≤ h.2.2.2.2.2; omega, hdk.2.2⟩, fun j hj => ?_⟩
  · rw [hT, e35]
    by_cases c : α 77 (σ 76 7).toNat = 3
    · rw [if_pos c]
      have h5 := hen.2.2.2.2 c
      by_cases d : k = (α 78 (σ 76 7).toNat).toNat
      · rw [show qzu (α 35) (α 78 (σ 76 7).toNat).toNat (α 80 (σ 76 7).toNat) k = α 80 (σ 76 7).toNat from if_pos d, d]
        exact Or.inl h5.1
      · rw [show qzu (α 35) (α 78 (σ 76 7).toNat).toNat (α 80 (σ 76 7).toNat) k = α 35 k from if_neg d]
        exact hU k (by omega)
    · rw [if_neg c]
      exact hU k (by omega)
  · rw [hT, f1, f2, f3, e77, e78, e79, e80]
    exact hE j hj

set_option maxHeartbeats 4000000 in
set_option maxRecDepth 20000 in
/-- OneRoof$History.told -/
theorem sf_53_76x {L : Nat} {xs : Nat → Int} {vb : Bool} {d : Nat} {σ α : Nat → Nat → Int} {κ : Nat → Option Nat} {ρ : Nat} {x1 : Int} {x2 : Int} (hI : qI σ α κ ρ) (r1 : 0 ≤ x1 ∧ x1 ≤ 3) (r2 : 0 ≤ x2 ∧ x2 ≤ 1919) (p0 : (x1 = 0 → x2 ≤ 39) ∧ (x1 = 2 → x2 ≤ 31) ∧ (¬ x1 = 0 → ¬ x1 = 1 → ¬ x1 = 2 → x2 ≤ 59)) : qm_T (qe L xs vb) (d + 2) 53 [.ref 76, .int (qz x1), .int (qz x2)] (qw σ α κ ρ) (fun r w' => w' = qw σ α κ ρ ∧ ∃ v : Int, r = some (.int (qz v)) ∧ ((-2147483648) ≤ v ∧ v ≤ 2147483647) ∧ v = qtd (α 33) (α 41) (α 20) (α 35) x1 x2) := by
  refine qr_start (d := d + 1) qv_e53 (Nat.le_of_ble_eq_true rfl) ?_
  show qr_W (qe L xs vb) (d + 1) qx_e53 _ (0, [(0, .ref 76), (1, .int (qz x1)), (2, .int (qz x2))], [], _, 0, 0)
  refine qr_iload_n 1 rfl rfl rfl ?_
  have h1 : x1 = 0 ∨ x1 = 1 ∨ x1 = 2 ∨ (x1 < 0 ∨ 2 < x1) := by omega
  rcases h1 with h1 | h1 | h1 | h1
  · skip
    refine qr_tabIn 28 rfl (qrg r1 (by decide) (by decide)) (by rw [h1]; decide) (by rw [h1]; rfl) rfl ?_
    refine qr_aload_n 29 rfl rfl rfl ?_
    refine qr_get 32 rfl rfl rfl (by decide) rfl ?_
    refine qr_get 35 rfl rfl rfl (by decide) rfl ?_
    refine qr_iload_n 36 rfl rfl rfl ?_
    refine qr_iaload 37 rfl rfl (by omega) (by decide) rfl ?_
    refine qr_topI (fun v3 hv3 => ?_)
    have hs4 : (-2147483648) ≤ v3 ∧ v3 ≤ 2147483647 := by rw [hv3]; exact hI.2.1 33 _ (show _ < 40 by omega)
    refine qr_retI rfl rfl (by decide) (by decide) ?_
    exact ⟨rfl, v3, rfl, hs4, (by unfold qtd; rw [if_pos (by omega)]; exact hv3)⟩
  · skip
    refine qr_tabIn 38 rfl (qrg r1 (by decide) (by decide)) (by rw [h1]; decide) (by rw [h1]; rfl) rfl ?_
    refine qr_aload_n 39 rfl rfl rfl ?_
    refine qr_get 42 rfl rfl rfl (by decide) rfl ?_
    refine qr_get 45 rfl rfl rfl (by decide) rfl ?_
    refine qr_iload_n 46 rfl rfl rfl ?_
    refine qr_bipush 48 rfl (by decide) rfl ?_
    refine qr_idiv 49 rfl (qrg r2 (by decide) (by decide)) (by decide) rfl ?_
    refine qr_laload 50 rfl (by decide) rfl (by omega) (by decide) rfl ?_
    refine qr_topL (fun v5 hv5 => ?_)
    have hs6 : (-9223372036854775808) ≤ v5 ∧ v5 ≤ 9223372036854775807 := by rw [hv5]; exact hI.2.1 41 _ (show _ < 60 by omega)
    refine qr_iload_n 51 rfl rfl rfl ?_
    refine qr_bipush 53 rfl (by decide) rfl ?_
    refine qr_irem 54 rfl (qrg r2 (by decide) (by decide)) (by decide) rfl ?_
    refine qr_callN 57 rfl rfl rfl (sf_50b (d := d + 0) hI hs6 (by omega)) ?_
    rintro _ _ ⟨rfl, v7, rfl, hv7, hp8⟩
    show qr_W (qe L xs vb) (d + 1) qx_e53 _ (57, _, [.int (qz v7)], qw σ α κ ρ, 0, 0)
    refine qr_if_eq 64 60 rfl rfl rfl (qrg hv7 (by decide) (by decide)) (fun h9 => ?_) (fun h9 => ?_)
    · skip
      refine qr_iconst 65 rfl rfl ?_
      refine qr_retI rfl rfl (by decide) (by decide) ?_
      exact ⟨rfl, 0, rfl, (by decide), (by unfold qtd; rw [if_neg (by omega), if_pos (by omega), ← hv5]; omega)⟩
    · skip
      refine qr_iconst 61 rfl rfl ?_
      refine qr_goto 65 rfl rfl ?_
      refine qr_retI rfl rfl (by decide) (by decide) ?_
      exact ⟨rfl, 1, rfl, (by decide), (by unfold qtd; rw [if_neg (by omega), if_pos (by omega), ← hv5]; omega)⟩
  · skip
    refine qr_tabIn 66 rfl (qrg r1 (by decide) (by decide)) (by rw [h1]; decide) (by rw [h1]; rfl) rfl ?_
    refine qr_aload_n 67 rfl rfl rfl ?_
    refine qr_get 70 rfl rfl rfl (by decide) rfl ?_
    refine qr_get 73 rfl rfl rfl (by decide) rfl ?_
    refine qr_iload_n 74 rfl rfl rfl ?_
    refine qr_iaload 75 rfl rfl (by omega) (by decide) rfl ?_
    refine qr_topI (fun v10 hv10 => ?_)
    have hs11 : (-2147483648) ≤ v10 ∧ v10 ≤ 2147483647 := by rw [hv10]; exact hI.2.1 20 _ (show _ < 32 by omega)
    refine qr_retI rfl rfl (by decide) (by decide) ?_
    exact ⟨rfl, v10, rfl, hs11, (by unfold qtd; rw [if_neg (by omega), if_neg (by omega), if_pos (by omega)]; exact hv10)⟩
  · skip
    refine qr_tabOut 76 rfl (qrg r1 (by decide) (by decide)) (by omega) rfl ?_
    refine qr_aload_n 77 rfl rfl rfl ?_
    refine qr_get 80 rfl rfl rfl (by decide) rfl ?_
    refine qr_get 83 rfl rfl rfl (by decide) rfl ?_
    refine qr_iload_n 84 rfl rfl rfl ?_
    refine qr_iaload 85 rfl rfl (by omega) (by decide) rfl ?_
    refine qr_topI (fun v12 hv12 => ?_)
    have hs13 : (-2147483648) ≤ v12 ∧ v12 ≤ 2147483647 := by rw [hv12]; exact hI.2.1 35 _ (show _ < 60 by omega)
    refine qr_retI rfl rfl (by decide) (by decide) ?_
    exact ⟨rfl, v12, rfl, hs13, (by unfold qtd; rw [if_neg (by omega), if_neg (by omega), if_neg (by omega)]; exact hv12)⟩

set_option maxHeartbeats 4000000 in
set_option maxRecDepth 20000 in
/-- OneRoof$History.set -/
theorem sf_55_76x {L : Nat} {xs : Nat → Int} {vb : Bool} {d : Nat} {σ α : Nat → Nat → Int} {κ : Nat → Option Nat} {ρ : Nat} {x1 : Int} {x2 : Int} {x3 : Int} (hI : qI σ α κ ρ) (r1 : 0 ≤ x1 ∧ x1 ≤ 3) (r2 : 0 ≤ x2 ∧ x2 ≤ 1919) (r3 : (-2147483648) ≤ x3 ∧ x3 ≤ 2147483647) (p0 : (x1 = 0 → x2 ≤ 39) ∧ (x1 = 2 → x2 ≤ 31) ∧ (¬ x1 = 0 → ¬ x1 = 1 → ¬ x1 = 2 → x2 ≤ 59)) : qm_T (qe L xs vb) (d + 1) 55 [.ref 76, .int (qz x1), .int (qz x2), .int (qz x3)] (qw σ α κ ρ) (fun r w' => ∃ α', w' = qw σ α' κ ρ ∧ qI σ α' κ ρ ∧ qFr [] [20, 33, 35, 41] σ α σ α' ∧ r = none ∧ α' 20 = (if x1 = 2 then qzu (α 20) (x2 : Int).toNat x3 else α 20) ∧ α' 33 = (if x1 = 0 then qzu (α 33) (x2 : Int).toNat x3 else α 33) ∧ α' 35 = (if x1 = 3 then qzu (α 35) (x2 : Int).toNat x3 else α 35) ∧ α' 41 = (if x1 = 1 then qzu (α 41) (x2 / 32 : Int).toNat (qcb (α 41 (x2 / 32 : Int).toNat) (x2 % 32) x3) else α 41)) := by
  refine qr_start (d := d + 0) qv_e55 (Nat.le_of_ble_eq_true rfl) ?_
  show qr_W (qe L xs vb) (d + 0) qx_e55 _ (0, [(0, .ref 76), (1, .int (qz x1)), (2, .int (qz x2)), (3, .int (qz x3))], [], _, 0, 0)
  have hF0 := qFr_rf [] [20, 33, 35, 41] σ α
  refine qr_iload_n 1 rfl rfl rfl ?_
  have h1 : x1 = 0 ∨ x1 = 1 ∨ x1 = 2 ∨ (x1 < 0 ∨ 2 < x1) := by omega
  rcases h1 with h1 | h1 | h1 | h1
  · skip
    refine qr_tabIn 28 rfl (qrg r1 (by decide) (by decide)) (by rw [h1]; decide) (by rw [h1]; rfl) rfl ?_
    refine qr_aload_n 29 rfl rfl rfl ?_
    refine qr_get 32 rfl rfl rfl (by decide) rfl ?_
    refine qr_get 35 rfl rfl rfl (by decide) rfl ?_
    refine qr_iload_n 36 rfl rfl rfl ?_
    refine qr_iload_n 37 rfl rfl rfl ?_
    refine qr_iastore 38 rfl (by decide) rfl (by omega) (by decide) rfl ?_
    refine qy_wA (qw_r α 33 (qzu (α 33) (x2 : Int).toNat x3)) rfl (fun α3 e4 => ?_)
    have hI5 : qI σ α3 κ ρ := by rw [e4]; exact qI_r hI 33 _ rfl (show (-2147483648) ≤ x3 ∧ x3 ≤ 2147483647 by omega)
    have hF6 : qFr [] [20, 33, 35, 41] σ α σ α3 := by rw [e4]; exact qFr_r hF0 33 _ (by decide)
    refine qr_goto 121 rfl rfl ?_
    refine qr_retV rfl rfl (by decide) (by decide) ?_
    exact ⟨_, rfl, hI5, hF6, rfl, ((((congrFun e4 20).trans ((qw_r_ne (by decide)).trans rfl))).trans (if_neg (by omega)).symm), ((((congrFun e4 33).trans (qw_r_eq.trans (congrArg (fun f => qzu f (x2 : Int).toNat x3) rfl)))).trans (if_pos (by omega)).symm), ((((congrFun e4 35).trans ((qw_r_ne (by decide)).trans rfl))).trans (if_neg (by omega)).symm), ((((congrFun e4 41).trans ((qw_r_ne (by decide)).trans rfl))).trans (if_neg (by omega)).symm)⟩
  · skip
    refine qr_tabIn 41 rfl (qrg r1 (by decide) (by decide)) (by rw [h1]; decide) (by rw [h1]; rfl) rfl ?_
    refine qr_lconst 42 rfl rfl ?_
    refine qy_vl 1 rfl ?_
    refine qr_iload_n 43 rfl rfl rfl ?_
    refine qr_bipush 45 rfl (by decide) rfl ?_
    refine qr_irem 46 rfl (qrg r2 (by decide) (by decide)) (by decide) rfl ?_
    refine qr_lshl 47 rfl rfl ?_
    refine qy_canlE (fun v7 hv7 hev7 => ?_)
    refine qr_lstore _ 49 rfl (by decide) rfl rfl ?_
    refine qr_iload_n 50 rfl rfl rfl ?_
    refine qr_iconst 51 rfl rfl ?_
    refine qr_icmp_ne 74 54 rfl rfl rfl r3 (by decide) (fun h8 => ?_) (fun h8 => ?_)
    · skip
      refine qr_aload_n 75 rfl rfl rfl ?_
      refine qr_get 78 rfl rfl rfl (by decide) rfl ?_
      refine qr_get 81 rfl rfl rfl (by decide) rfl ?_
      refine qr_iload_n 82 rfl rfl rfl ?_
      refine qr_bipush 84 rfl (by decide) rfl ?_
      refine qr_idiv 85 rfl (qrg r2 (by decide) (by decide)) (by decide) rfl ?_
      refine qr_dup2 86 rfl rfl rfl rfl ?_
      refine qr_laload 87 rfl (by decide) rfl (by omega) (by decide) rfl ?_
      refine qr_topL (fun v9 hv9 => ?_)
      have hs10 : (-9223372036854775808) ≤ v9 ∧ v9 ≤ 9223372036854775807 := by rw [hv9]; exact hI.2.1 41 _ (show _ < 60 by omega)
      have hrv9 : v9 = (α 41) ((x2 / 32) : Int).toNat := hv9
      refine qr_lload 89 rfl rfl rfl ?_
      refine qr_ldc2 (-1) 92 rfl (by decide) rfl ?_
      refine qr_lxor 93 rfl rfl ?_
      refine qy_canlE (fun v11 hv11 hev11 => ?_)
      refine qr_land 94 rfl rfl ?_
      refine qy_canlE (fun v12 hv12 hev12 => ?_)
      refine qr_lastore 95 rfl (by decide) rfl (by omega) (by decide) rfl ?_
      refine qy_wA (qw_r α 41 (qzu (α 41) ((x2 / 32) : Int).toNat v12)) rfl (fun α13 e14 => ?_)
      have hI15 : qI σ α13 κ ρ := by rw [e14]; exact qI_r hI 41 _ rfl (show (-9223372036854775808) ≤ v12 ∧ v12 ≤ 9223372036854775807 by omega)
      have hF16 : qFr [] [20, 33, 35, 41] σ α σ α13 := by rw [e14]; exact qFr_r hF0 41 _ (by decide)
      refine qr_goto 121 rfl rfl ?_
      refine qr_retV rfl rfl (by decide) (by decide) ?_
      exact ⟨_, rfl, hI15, hF16, rfl, ((((congrFun e14 20).trans ((qw_r_ne (by decide)).trans rfl))).trans (if_neg (by omega)).symm), ((((congrFun e14 33).trans ((qw_r_ne (by decide)).trans rfl))).trans (if_neg (by omega)).symm), ((((congrFun e14 35).trans ((qw_r_ne (by decide)).trans rfl))).trans (if_neg (by omega)).symm), ((((congrFun e14 41).trans (qw_r_eq.trans (congrArg (fun f => qzu f ((x2 / 32) : Int).toNat v12) rfl)))).trans ((congrArg (fun t => qzu (α 41) (x2 / 32 : Int).toNat t) (by unfold qcb; rw [if_neg (by omega), ql_val hev12 (by omega) (ql_and_r _ _), ql_val hev11 (by omega) (ql_xor_r _ _), ql_val hev7 (by omega) (ql_shl_r _ _), hv9])).trans (if_pos (by omega)).symm))⟩
    · skip
      refine qr_aload_n 55 rfl rfl rfl ?_
      refine qr_get 58 rfl rfl rfl (by decide) rfl ?_
      refine qr_get 61 rfl rfl rfl (by decide) rfl ?_
      refine qr_iload_n 62 rfl rfl rfl ?_
      refine qr_bipush 64 rfl (by decide) rfl ?_
      refine qr_idiv 65 rfl (qrg r2 (by decide) (by decide)) (by decide) rfl ?_
      refine qr_dup2 66 rfl rfl rfl rfl ?_
      refine qr_laload 67 rfl (by decide) rfl (by omega) (by decide) rfl ?_
      refine qr_topL (fun v17 hv17 => ?_)
      have hs18 : (-9223372036854775808) ≤ v17 ∧ v17 ≤ 9223372036854775807 := by rw [hv17]; exact hI.2.1 41 _ (show _ < 60 by omega)
      have hrv17 : v17 = (α 41) ((x2 / 32) : Int).toNat := hv17
      refine qr_lload 69 rfl rfl rfl ?_
      refine qr_lor 70 rfl rfl ?_
      refine qy_canlE (fun v19 hv19 hev19 => ?_)
      refine qr_lastore 71 rfl (by decide) rfl (by omega) (by decide) rfl ?_
      refine qy_wA (qw_r α 41 (qzu (α 41) ((x2 / 32) : Int).toNat v19)) rfl (fun α20 e21 => ?_)
      have hI22 : qI σ α20 κ ρ := by rw [e21]; exact qI_r hI 41 _ rfl (show (-9223372036854775808) ≤ v19 ∧ v19 ≤ 9223372036854775807 by omega)
      have hF23 : qFr [] [20, 33, 35, 41] σ α σ α20 := by rw [e21]; exact qFr_r hF0 41 _ (by decide)
      refine qr_goto 121 rfl rfl ?_
      refine qr_retV rfl rfl (by decide) (by decide) ?_
      exact ⟨_, rfl, hI22, hF23, rfl, ((((congrFun e21 20).trans ((qw_r_ne (by decide)).trans rfl))).trans (if_neg (by omega)).symm), ((((congrFun e21 33).trans ((qw_r_ne (by decide)).trans rfl))).trans (if_neg (by omega)).symm), ((((congrFun e21 35).trans ((qw_r_ne (by decide)).trans rfl))).trans (if_neg (by omega)).symm), ((((congrFun e21 41).trans (qw_r_eq.trans (congrArg (fun f => qzu f ((x2 / 32) : Int).toNat v19) rfl)))).trans ((congrArg (fun t => qzu (α 41) (x2 / 32 : Int).toNat t) (by unfold qcb; rw [if_pos (by omega), ql_val hev19 (by omega) (ql_or_r _ _), ql_val hev7 (by omega) (ql_shl_r _ _), hv17])).trans (if_pos (by omega)).symm))⟩
  · skip
    refine qr_tabIn 98 rfl (qrg r1 (by decide) (by decide)) (by rw [h1]; decide) (by rw [h1]; rfl) rfl ?_
    refine qr_aload_n 99 rfl rfl rfl ?_
    refine qr_get 102 rfl rfl rfl (by decide) rfl ?_
    refine qr_get 105 rfl rfl rfl (by decide) rfl ?_
    refine qr_iload_n 106 rfl rfl rfl ?_
    refine qr_iload_n 107 rfl rfl rfl ?_
    refine qr_iastore 108 rfl (by decide) rfl (by omega) (by decide) rfl ?_
    refine qy_wA (qw_r α 20 (qzu (α 20) (x2 : Int).toNat x3)) rfl (fun α24 e25 => ?_)
    have hI26 : qI σ α24 κ ρ := by rw [e25]; exact qI_r hI 20 _ rfl (show (-2147483648) ≤ x3 ∧ x3 ≤ 2147483647 by omega)
    have hF27 : qFr [] [20, 33, 35, 41] σ α σ α24 := by rw [e25]; exact qFr_r hF0 20 _ (by decide)
    refine qr_goto 121 rfl rfl ?_
    refine qr_retV rfl rfl (by decide) (by decide) ?_
    exact ⟨_, rfl, hI26, hF27, rfl, ((((congrFun e25 20).trans (qw_r_eq.trans (congrArg (fun f => qzu f (x2 : Int).toNat x3) rfl)))).trans (if_pos (by omega)).symm), ((((congrFun e25 33).trans ((qw_r_ne (by decide)).trans rfl))).trans (if_neg (by omega)).symm), ((((congrFun e25 35).trans ((qw_r_ne (by decide)).trans rfl))).trans (if_neg (by omega)).symm), ((((congrFun e25 41).trans ((qw_r_ne (by decide)).trans rfl))).trans (if_neg (by omega)).symm)⟩
  · skip
    refine qr_tabOut 111 rfl (qrg r1 (by decide) (by decide)) (by omega) rfl ?_
    refine qr_aload_n 112 rfl rfl rfl ?_
    refine qr_get 115 rfl rfl rfl (by decide) rfl ?_
    refine qr_get 118 rfl rfl rfl (by decide) rfl ?_
    refine qr_iload_n 119 rfl rfl rfl ?_
    refine qr_iload_n 120 rfl rfl rfl ?_
    refine qr_iastore 121 rfl (by decide) rfl (by omega) (by decide) rfl ?_
    refine qy_wA (qw_r α 35 (qzu (α 35) (x2 : Int).toNat x3)) rfl (fun α28 e29 => ?_)
    have hI30 : qI σ α28 κ ρ := by rw [e29]; exact qI_r hI 35 _ rfl (show (-2147483648) ≤ x3 ∧ x3 ≤ 2147483647 by omega)
    have hF31 : qFr [] [20, 33, 35, 41] σ α σ α28 := by rw [e29]; exact qFr_r hF0 35 _ (by decide)
    refine qr_retV rfl rfl (by decide) (by decide) ?_
    exact ⟨_, rfl, hI30, hF31, rfl, ((((congrFun e29 20).trans ((qw_r_ne (by decide)).trans rfl))).trans (if_neg (by omega)).symm), ((((congrFun e29 33).trans ((qw_r_ne (by decide)).trans rfl))).trans (if_neg (by omega)).symm), ((((congrFun e29 35).trans (qw_r_eq.trans (congrArg (fun f => qzu f (x2 : Int).toNat x3) rfl)))).trans (if_pos (by omega)).symm), ((((congrFun e29 41).trans ((qw_r_ne (by decide)).trans rfl))).trans (if_neg (by omega)).symm)⟩

set_option maxHeartbeats 4000000 in
set_option maxRecDepth 20000 in
/-- OneRoof$History.forgetFirst -/
theorem sf_54_76x {L : Nat} {xs : Nat → Int} {vb : Bool} {d : Nat} {σ α : Nat → Nat → Int} {κ : Nat → Option Nat} {ρ : Nat}  (hI : qI σ α κ ρ)  : qm_T (qe L xs vb) (d + 1) 54 [.ref 76] (qw σ α κ ρ) (fun r w' => ∃ σ' α', w' = qw σ' α' κ ρ ∧ qI σ' α' κ ρ ∧ qFr [(76, 7)] [77, 78, 79, 80] σ α σ' α' ∧ σ' 76 7 = 39 ∧ r = none ∧ α' 77 = va_cpy (α 77) (α 77) (1 : Int).toNat (0 : Int).toNat (39 : Int).toNat ∧ α' 78 = va_cpy (α 78) (α 78) (1 : Int).toNat (0 : Int).toNat (39 : Int).toNat ∧ α' 79 = va_cpy (α 79) (α 79) (1 : Int).toNat (0 : Int).toNat (39 : Int).toNat ∧ α' 80 = va_cpy (α 80) (α 80) (1 : Int).toNat (0 : Int).toNat (39 : Int).toNat) := by
  refine qr_start (d := d + 0) qv_e54 (Nat.le_of_ble_eq_true rfl) ?_
  show qr_W (qe L xs vb) (d + 0) qx_e54 _ (0, [(0, .ref 76)], [], _, 0, 0)
  have hF0 := qFr_rf [(76, 7)] [77, 78, 79, 80] σ α
  refine qr_aload_n 1 rfl rfl rfl ?_
  refine qr_get 4 rfl rfl rfl (by decide) rfl ?_
  refine qr_iconst 5 rfl rfl ?_
  refine qr_aload_n 6 rfl rfl rfl ?_
  refine qr_get 9 rfl rfl rfl (by decide) rfl ?_
  refine qr_iconst 10 rfl rfl ?_
  refine qr_bipush 12 rfl (by decide) rfl ?_
  refine qy_copyi 15 rfl (by decide) (by decide) rfl rfl (by omega) (by omega) (by omega) (by omega) (by omega) (by decide) (by decide) rfl ?_
  refine qy_wA (qw_r α 77 (va_cpy (α 77) (α 77) (1 : Int).toNat (0 : Int).toNat (39 : Int).toNat)) rfl (fun α1 e2 => ?_)
  have hF4 : qFr [(76, 7)] [77, 78, 79, 80] σ α σ α1 := by rw [e2]; exact qFr_r hF0 77 _ (by decide)
  refine qr_aload_n 16 rfl rfl rfl ?_
  refine qr_get 19 rfl rfl rfl (by decide) rfl ?_
  refine qr_iconst 20 rfl rfl ?_
  refine qr_aload_n 21 rfl rfl rfl ?_
  refine qr_get 24 rfl rfl rfl (by decide) rfl ?_
  refine qr_iconst 25 rfl rfl ?_
  refine qr_bipush 27 rfl (by decide) rfl ?_
  refine qy_copyi 30 rfl (by decide) (by decide) rfl rfl (by omega) (by omega) (by omega) (by omega) (by omega) (by decide) (by decide) rfl ?_
  refine qy_wA (qw_r α1 78 (va_cpy (α1 78) (α1 78) (1 : Int).toNat (0 : Int).toNat (39 : Int).toNat)) rfl (fun α5 e6 => ?_)
  have hI7 : qI σ α5 κ ρ := by rw [e6, e2]; exact qI_cpy77 hI (by omega)
  have hF8 : qFr [(76, 7)] [77, 78, 79, 80] σ α σ α5 := by rw [e6]; exact qFr_r hF4 78 _ (by decide)
  refine qr_aload_n 31 rfl rfl rfl ?_
  refine qr_get 34 rfl rfl rfl (by decide) rfl ?_
  refine qr_iconst 35 rfl rfl ?_
  refine qr_aload_n 36 rfl rfl rfl ?_
  refine qr_get 39 rfl rfl rfl (by decide) rfl ?_
  refine qr_iconst 40 rfl rfl ?_
  refine qr_bipush 42 rfl (by decide) rfl ?_
  refine qy_copyi 45 rfl (by decide) (by decide) rfl rfl (by omega) (by omega) (by omega) (by omega) (by omega) (by decide) (by decide) rfl ?_
  refine qy_wA (qw_r α5 79 (va_cpy (α5 79) (α5 79) (1 : Int).toNat (0 : Int).toNat (39 : Int).toNat)) rfl (fun α9 e10 => ?_)
  have hI11 : qI σ α9 κ ρ := by rw [e10]; exact qI_cpy hI7 79 79 rfl rfl (show _ ≤ 40 by omega)
  have hF12 : qFr [(76, 7)] [77, 78, 79, 80] σ α σ α9 := by rw [e10]; exact qFr_r hF8 79 _ (by decide)
  refine qr_aload_n 46 rfl rfl rfl ?_
  refine qr_get 49 rfl rfl rfl (by decide) rfl ?_
  refine qr_iconst 50 rfl rfl ?_
  refine qr_aload_n 51 rfl rfl rfl ?_
  refine qr_get 54 rfl rfl rfl (by decide) rfl ?_
  refine qr_iconst 55 rfl rfl ?_
  refine qr_bipush 57 rfl (by decide) rfl ?_
  refine qy_copyi 60 rfl (by decide) (by decide) rfl rfl (by omega) (by omega) (by omega) (by omega) (by omega) (by decide) (by decide) rfl ?_
  refine qy_wA (qw_r α9 80 (va_cpy (α9 80) (α9 80) (1 : Int).toNat (0 : Int).toNat (39 : Int).toNat)) rfl (fun α13 e14 => ?_)
  have hI15 : qI σ α13 κ ρ := by rw [e14]; exact qI_cpy hI11 80 80 rfl rfl (show _ ≤ 40 by omega)
  have hF16 : qFr [(76, 7)] [77, 78, 79, 80] σ α σ α13 := by rw [e14]; exact qFr_r hF12 80 _ (by decide)
  refine qr_aload_n 61 rfl rfl rfl ?_
  refine qr_bipush 63 rfl (by decide) rfl ?_
  refine qr_put 66 rfl (by decide) rfl (Nat.le_of_ble_eq_true rfl) (Nat.le_of_ble_eq_true rfl) (Or.inl rfl) (qr_fitI rfl _) rfl ?_
  refine qy_wS (qw_s σ 76 7 39) rfl (fun σ17 e18 => ?_)
  have hI19 : qI σ17 α13 κ ρ := by rw [e18]; exact qI_s hI15 76 7 rfl (show 0 ≤ 39 ∧ 39 ≤ 40 by omega)
  have hF20 : qFr [(76, 7)] [77, 78, 79, 80] σ α σ17 α13 := by rw [e18]; exact qFr_s hF16 76 7 _ (by decide)
  refine qr_retV rfl rfl (by decide) (by decide) ?_
  exact ⟨_, _, rfl, hI19, hF20, (by have hw : σ17 76 7 = 39 := (congrFun (congrFun e18 76) 7).trans rfl; omega), rfl, ((congrFun e14 77).trans ((qw_r_ne (by decide)).trans ((congrFun e10 77).trans ((qw_r_ne (by decide)).trans ((congrFun e6 77).trans ((qw_r_ne (by decide)).trans ((congrFun e2 77).trans qw_r_eq))))))), ((congrFun e14 78).trans ((qw_r_ne (by decide)).trans ((congrFun e10 78).trans ((qw_r_ne (by decide)).trans ((congrFun e6 78).trans (qw_r_eq.trans (by rw [((congrFun e2 78).trans ((qw_r_ne (by decide)).trans rfl))]))))))), ((congrFun e14 79).trans ((qw_r_ne (by decide)).trans ((congrFun e10 79).trans (qw_r_eq.trans (by rw [((congrFun e6 79).trans ((qw_r_ne (by decide)).trans ((congrFun e2 79).trans ((qw_r_ne (by decide)).trans rfl))))]))))), ((congrFun e14 80).trans (qw_r_eq.trans (by rw [((congrFun e10 80).trans ((qw_r_ne (by decide)).trans ((congrFun e6 80).trans ((qw_r_ne (by decide)).trans ((congrFun e2 80).trans ((qw_r_ne (by decide)).trans rfl))))))])))⟩

set_option maxHeartbeats 4000000 in
set_option maxRecDepth 20000 in
/-- OneRoof$History.change -/
theorem sf_52_76x {L : Nat} {xs : Nat → Int} {vb : Bool} {d : Nat} {σ α : Nat → Nat → Int} {κ : Nat → Option Nat} {ρ : Nat} {x1 : Int} {x2 : Int} {x3 : Int} {h : qHS} (hI : qI σ α κ ρ) (r1 : 0 ≤ x1 ∧ x1 ≤ 3) (r2 : 0 ≤ x2 ∧ x2 ≤ 1919) (r3 : (-2147483648) ≤ x3 ∧ x3 ≤ 2147483647) (p0 : qHq σ α h) (p1 : qpl4 (σ 17 6) (σ 27 7) (σ 34 7) x1 x2) (p2 : x1 = 1 → x3 = 0 ∨ x3 = 1) (p3 : x1 = 3 → x3 = 6) : qm_T (qe L xs vb) (d + 3) 52 [.ref 76, .int (qz x1), .int (qz x2), .int (qz x3)] (qw σ α κ ρ) (fun r w' => ∃ σ' α', w' = qw σ' α' κ ρ ∧ qI σ' α' κ ρ ∧ qFr [(76, 7), (76, 8)] [20, 33, 35, 41, 77, 78, 79, 80] σ α σ' α' ∧ ∃ v : Int, r = some (.int (qz v)) ∧ ((-2147483648) ≤ v ∧ v ≤ 2147483647) ∧ v = qtd (α 33) (α 41) (α 20) (α 35) x1 x2 ∧ qHq σ' α' (qbec h (qat x1 x2) (qwd h.1 x1 x2 x3))) := by
  refine qr_start (d := d + 2) qv_e52 (Nat.le_of_ble_eq_true rfl) ?_
  show qr_W (qe L xs vb) (d + 2) qx_e52 _ (0, [(0, .ref 76), (1, .int (qz x1)), (2, .int (qz x2)), (3, .int (qz x3))], [], _, 0, 0)
  have hF0 := qFr_rf [(76, 7), (76, 8)] [20, 33, 35, 41, 77, 78, 79, 80] σ α
  have hp1 : (x1 = 0 ∧ 0 ≤ x2 ∧ x2 < σ 27 7) ∨ (x1 = 1 ∧ 0 ≤ x2 ∧ x2 < 32 * σ 34 7) ∨ (x1 = 2 ∧ 0 ≤ x2 ∧ x2 < σ 17 6) ∨ (x1 = 3 ∧ 0 ≤ x2 ∧ x2 < σ 34 7) := p1
  have hz17_6 : 0 ≤ σ 17 6 ∧ σ 17 6 ≤ 32 := hI.1 17 6
  have hz27_7 : 0 ≤ σ 27 7 ∧ σ 27 7 ≤ 40 := hI.1 27 7
  have hz34_7 : 0 ≤ σ 34 7 ∧ σ 34 7 ≤ 60 := hI.1 34 7
  have hz76_7 : 0 ≤ σ 76 7 ∧ σ 76 7 ≤ 40 := hI.1 76 7
  have hz76_8 : 0 ≤ σ 76 8 ∧ σ 76 8 ≤ 40 := hI.1 76 8
  refine qr_aload_n 1 rfl rfl rfl ?_
  refine qr_iload_n 2 rfl rfl rfl ?_
  refine qr_iload_n 3 rfl rfl rfl ?_
  refine qr_callN 6 rfl rfl rfl (sf_53_76x (d := d + 0) hI r1 r2 (by omega)) ?_
  rintro _ _ ⟨rfl, v1, rfl, hv1, hp2⟩
  show qr_W (qe L xs vb) (d + 2) qx_e52 _ (6, _, [.int (qz v1)], qw σ α κ ρ, 0, 0)
  refine qr_istore _ 8 rfl (by decide) rfl rfl ?_
  refine qr_iload 10 rfl rfl rfl ?_
  refine qr_iload_n 11 rfl rfl rfl ?_
  refine qr_icmp_ne 17 14 rfl rfl rfl hv1 r3 (fun h3 => ?_) (fun h3 => ?_)
  · skip
    refine qr_aload_n 18 rfl rfl rfl ?_
    refine qr_get 21 rfl rfl rfl (by decide) rfl ?_
    refine qr_bipush 23 rfl (by decide) rfl ?_
    refine qr_icmp_lt 30 26 rfl rfl rfl (qrg hz76_7 (by decide) (by decide)) (by decide) (fun h4 => ?_) (fun h4 => ?_)
    · skip
      have hdo : qdo (σ 76 7) = σ 76 7 := if_neg (by omega)
      have hs5 : α 77 = qfo (σ 76 7) (α 77) := (if_neg (by omega)).symm
      have hs6 : α 78 = qfo (σ 76 7) (α 78) := (if_neg (by omega)).symm
      have hs7 : α 79 = qfo (σ 76 7) (α 79) := (if_neg (by omega)).symm
      have hs8 : α 80 = qfo (σ 76 7) (α 80) := (if_neg (by omega)).symm
      refine qr_aload_n 31 rfl rfl rfl ?_
      refine qr_get 34 rfl rfl rfl (by decide) rfl ?_
      refine qr_aload_n 35 rfl rfl rfl ?_
      refine qr_get 38 rfl rfl rfl (by decide) rfl ?_
      refine qr_iload_n 39 rfl rfl rfl ?_
      refine qr_iastore 40 rfl (by decide) rfl (by omega) (by decide) rfl ?_
      refine qy_wA (qw_r α 77 (qzu (α 77) ((σ 76 7) : Int).toNat x1)) rfl (fun α9 e10 => ?_)
      have hF12 : qFr [(76, 7), (76, 8)] [20, 33, 35, 41, 77, 78, 79, 80] σ α σ α9 := by rw [e10]; exact qFr_r hF0 77 _ (by decide)
      refine qr_aload_n 41 rfl rfl rfl ?_
      refine qr_get 44 rfl rfl rfl (by decide) rfl ?_
      refine qr_aload_n 45 rfl rfl rfl ?_
      refine qr_get 48 rfl rfl rfl (by decide) rfl ?_
      refine qr_iload_n 49 rfl rfl rfl ?_
      refine qr_iastore 50 rfl (by decide) rfl (by omega) (by decide) rfl ?_
      refine qy_wA (qw_r α9 78 (qzu (α9 78) ((σ 76 7) : Int).toNat x2)) rfl (fun α13 e14 => ?_)
      have hI15 : qI σ α13 κ ρ := by rw [e14, e10]; exact qI_r77 hI _ (show 0 ≤ x2 ∧ x2 ≤ 1919 by omega) (by omega)
      have hF16 : qFr [(76, 7), (76, 8)] [20, 33, 35, 41, 77, 78, 79, 80] σ α σ α13 := by rw [e14]; exact qFr_r hF12 78 _ (by decide)
      refine qr_aload_n 51 rfl rfl rfl ?_
      refine qr_get 54 rfl rfl rfl (by decide) rfl ?_
      refine qr_aload_n 55 rfl rfl rfl ?_
      refine qr_get 58 rfl rfl rfl (by decide) rfl ?_
      refine qr_iload 60 rfl rfl rfl ?_
      refine qr_iastore 61 rfl (by decide) rfl (by omega) (by decide) rfl ?_
      refine qy_wA (qw_r α13 79 (qzu (α13 79) ((σ 76 7) : Int).toNat v1)) rfl (fun α17 e18 => ?_)
      have hI19 : qI σ α17 κ ρ := by rw [e18]; exact qI_r hI15 79 _ rfl (show (-2147483648) ≤ v1 ∧ v1 ≤ 2147483647 by omega)
      have hF20 : qFr [(76, 7), (76, 8)] [20, 33, 35, 41, 77, 78, 79, 80] σ α σ α17 := by rw [e18]; exact qFr_r hF16 79 _ (by decide)
      refine qr_aload_n 62 rfl rfl rfl ?_
      refine qr_get 65 rfl rfl rfl (by decide) rfl ?_
      refine qr_aload_n 66 rfl rfl rfl ?_
      refine qr_get 69 rfl rfl rfl (by decide) rfl ?_
      refine qr_iload_n 70 rfl rfl rfl ?_
      refine qr_iastore 71 rfl (by decide) rfl (by omega) (by decide) rfl ?_
      refine qy_wA (qw_r α17 80 (qzu (α17 80) ((σ 76 7) : Int).toNat x3)) rfl (fun α21 e22 => ?_)
      have hI23 : qI σ α21 κ ρ := by rw [e22]; exact qI_r hI19 80 _ rfl (show (-2147483648) ≤ x3 ∧ x3 ≤ 2147483647 by omega)
      have hF24 : qFr [(76, 7), (76, 8)] [20, 33, 35, 41, 77, 78, 79, 80] σ α σ α21 := by rw [e22]; exact qFr_r hF20 80 _ (by decide)
      refine qr_aload_n 72 rfl rfl rfl ?_
      refine qr_dup 73 rfl rfl rfl ?_
      refine qr_get 76 rfl rfl rfl (by decide) rfl ?_
      refine qr_iconst 77 rfl rfl ?_
      refine qr_iadd 78 rfl rfl ?_
      refine qr_put 81 rfl (by decide) rfl (Nat.le_of_ble_eq_true rfl) (Nat.le_of_ble_eq_true rfl) (Or.inl rfl) (qr_fitI rfl _) rfl ?_
      refine qy_wS (qw_s σ 76 7 ((σ 76 7) + 1)) rfl (fun σ25 e26 => ?_)
      have hI27 : qI σ25 α21 κ ρ := by rw [e26]; exact qI_s hI23 76 7 rfl (show 0 ≤ ((σ 76 7) + 1) ∧ ((σ 76 7) + 1) ≤ 40 by omega)
      have hF28 : qFr [(76, 7), (76, 8)] [20, 33, 35, 41, 77, 78, 79, 80] σ α σ25 α21 := by rw [e26]; exact qFr_s hF24 76 7 _ (by decide)
      refine qr_aload_n 82 rfl rfl rfl ?_
      refine qr_aload_n 83 rfl rfl rfl ?_
      refine qr_get 86 rfl rfl rfl (by decide) rfl ?_
      refine qy_v ((σ 76 7) + 1) ((congrFun (congrFun e26 76) 7).trans rfl) ?_
      refine qr_put 89 rfl (by decide) rfl (Nat.le_of_ble_eq_true rfl) (Nat.le_of_ble_eq_true rfl) (Or.inl rfl) (qr_fitI rfl _) rfl ?_
      refine qy_wS (qw_s σ25 76 8 ((σ 76 7) + 1)) rfl (fun σ29 e30 => ?_)
      have hI31 : qI σ29 α21 κ ρ := by rw [e30]; exact qI_s hI27 76 8 rfl (show 0 ≤ ((σ 76 7) + 1) ∧ ((σ 76 7) + 1) ≤ 40 by omega)
      have hF32 : qFr [(76, 7), (76, 8)] [20, 33, 35, 41, 77, 78, 79, 80] σ α σ29 α21 := by rw [e30]; exact qFr_s hF28 76 8 _ (by decide)
      refine qr_aload_n 90 rfl rfl rfl ?_
      refine qr_iload_n 91 rfl rfl rfl ?_
      refine qr_iload_n 92 rfl rfl rfl ?_
      refine qr_iload_n 93 rfl rfl rfl ?_
      as_aux_lemma =>
        refine qr_callN 96 rfl rfl rfl (sf_55_76x (d := d + 1) hI31 r1 r2 r3 (by omega)) ?_
        rintro _ _ ⟨α37, rfl, hI38, hG39, rfl, hx33, hx34, hx35, hx36⟩
        have hF40 : qFr [(76, 7), (76, 8)] [20, 33, 35, 41, 77, 78, 79, 80] σ α σ29 α37 := qFr_t hF32 hG39 (by decide) (by decide)
        show qr_W (qe L xs vb) (d + 2) qx_e52 _ (96, _, [], qw σ29 α37 κ ρ, 0, 0)
        refine qr_iload 98 rfl rfl rfl ?_
        refine qr_retI rfl rfl (by decide) (by decide) ?_
        exact ⟨_, _, rfl, hI38, hF40, v1, rfl, hv1, by omega, (qHq_ch p0 p1 (by omega) (by omega) (by omega) p2 p3 r3 (fun z => absurd ((hp2).trans z) (by omega)) (hF40.1 17 6 (by decide)) (hF40.1 27 7 (by decide)) (hF40.1 34 7 (by decide)) (hF40.2 38 (by decide)) (hF40.2 39 (by decide)) (hF40.2 40 (by decide)) (by have hw : σ29 76 7 = ((σ 76 7) + 1) := (congrFun (congrFun e30 76) 7).trans ((congrFun (congrFun e26 76) 7).trans rfl); omega) (by have hw : σ29 76 8 = ((σ 76 7) + 1) := (congrFun (congrFun e30 76) 8).trans rfl; omega) ((((hG39.2 77 (by decide)).trans ((congrFun e22 77).trans ((qw_r_ne (by decide)).trans ((congrFun e18 77).trans ((qw_r_ne (by decide)).trans ((congrFun e14 77).trans ((qw_r_ne (by decide)).trans ((congrFun e10 77).trans (qw_r_eq.trans (congrArg (fun f => qzu f ((σ 76 7) : Int).toNat x1) hs5))))))))))).trans (by rw [show ((σ 76 7) : Int).toNat = (qdo (σ 76 7)).toNat by omega])) ((((hG39.2 78 (by decide)).trans ((congrFun e22 78).trans ((qw_r_ne (by decide)).trans ((congrFun e18 78).trans ((qw_r_ne (by decide)).trans ((congrFun e14 78).trans (qw_r_eq.trans (congrArg (fun f => qzu f ((σ 76 7) : Int).toNat x2) ((congrFun e10 78).trans ((qw_r_ne (by decide)).trans hs6))))))))))).trans (by rw [show ((σ 76 7) : Int).toNat = (qdo (σ 76 7)).toNat by omega])) ((((hG39.2 79 (by decide)).trans ((congrFun e22 79).trans ((qw_r_ne (by decide)).trans ((congrFun e18 79).trans (qw_r_eq.trans (congrArg (fun f => qzu f ((σ 76 7) : Int).toNat v1) ((congrFun e14 79).trans ((qw_r_ne (by decide)).trans ((congrFun e10 79).trans ((qw_r_ne (by decide)).trans hs7))))))))))).trans (by rw [show ((σ 76 7) : Int).toNat = (qdo (σ 76 7)).toNat by omega, hp2])) ((((hG39.2 80 (by decide)).trans ((congrFun e22 80).trans (qw_r_eq.trans (congrArg (fun f => qzu f ((σ 76 7) : Int).toNat x3) ((congrFun e18 80).trans ((qw_r_ne (by decide)).trans ((congrFun e14 80).trans ((qw_r_ne (by decide)).trans ((congrFun e10 80).trans ((qw_r_ne (by decide)).trans hs8))))))))))).trans (by rw [show ((σ 76 7) : Int).toNat = (qdo (σ 76 7)).toNat by omega])) (by have hz := hx34; rw [(show α21 33 = α 33 from ((congrFun e22 33).trans ((qw_r_ne (by decide)).trans ((congrFun e18 33).trans ((qw_r_ne (by decide)).trans ((congrFun e14 33).trans ((qw_r_ne (by decide)).trans ((congrFun e10 33).trans ((qw_r_ne (by decide)).trans rfl)))))))))] at hz; exact hz) (by have hz := hx36; rw [(show α21 41 = α 41 from ((congrFun e22 41).trans ((qw_r_ne (by decide)).trans ((congrFun e18 41).trans ((qw_r_ne (by decide)).trans ((congrFun e14 41).trans ((qw_r_ne (by decide)).trans ((congrFun e10 41).trans ((qw_r_ne (by decide)).trans rfl)))))))))] at hz; exact hz) (by have hz := hx33; rw [(show α21 20 = α 20 from ((congrFun e22 20).trans ((qw_r_ne (by decide)).trans ((congrFun e18 20).trans ((qw_r_ne (by decide)).trans ((congrFun e14 20).trans ((qw_r_ne (by decide)).trans ((congrFun e10 20).trans ((qw_r_ne (by decide)).trans rfl)))))))))] at hz; exact hz) (by have hz := hx35; rw [(show α21 35 = α 35 from ((congrFun e22 35).trans ((qw_r_ne (by decide)).trans ((congrFun e18 35).trans ((qw_r_ne (by decide)).trans ((congrFun e14 35).trans ((qw_r_ne (by decide)).trans ((congrFun e10 35).trans ((qw_r_ne (by decide)).trans rfl)))))))))] at hz; exact hz))⟩
    · skip
      refine qr_aload_n 27 rfl rfl rfl ?_
      refine qr_callN 30 rfl rfl rfl (sf_54_76x (d := d + 1) hI ) ?_
      rintro _ _ ⟨σ46, α47, rfl, hI48, hG49, hw45, rfl, hx41, hx42, hx43, hx44⟩
      have hF50 : qFr [(76, 7), (76, 8)] [20, 33, 35, 41, 77, 78, 79, 80] σ α σ46 α47 := qFr_t hF0 hG49 (by decide) (by decide)
      have hs51 : 0 ≤ σ46 76 7 ∧ σ46 76 7 ≤ 40 := hI48.1 76 7
      show qr_W (qe L xs vb) (d + 2) qx_e52 _ (30, _, [], qw σ46 α47 κ ρ, 0, 0)
      have hs52 : α47 77 = qfo (σ 76 7) (α 77) := by rw [hx41]; unfold qfo; rw [if_pos (by omega)]; exact qsl_cpy _
      have hs53 : α47 78 = qfo (σ 76 7) (α 78) := by rw [hx42]; unfold qfo; rw [if_pos (by omega)]; exact qsl_cpy _
      have hs54 : α47 79 = qfo (σ 76 7) (α 79) := by rw [hx43]; unfold qfo; rw [if_pos (by omega)]; exact qsl_cpy _
      have hs55 : α47 80 = qfo (σ 76 7) (α 80) := by rw [hx44]; unfold qfo; rw [if_pos (by omega)]; exact qsl_cpy _
      have hdo : qdo (σ 76 7) = 39 := if_pos (by omega)
      refine qr_aload_n 31 rfl rfl rfl ?_
      refine qr_get 34 rfl rfl rfl (by decide) rfl ?_
      refine qr_aload_n 35 rfl rfl rfl ?_
      refine qr_get 38 rfl rfl rfl (by decide) rfl ?_
      refine qr_iload_n 39 rfl rfl rfl ?_
      refine qr_iastore 40 rfl (by decide) rfl (by omega) (by decide) rfl ?_
      refine qy_wA (qw_r α47 77 (qzu (α47 77) ((σ46 76 7) : Int).toNat x1)) rfl (fun α56 e57 => ?_)
      have hF59 : qFr [(76, 7), (76, 8)] [20, 33, 35, 41, 77, 78, 79, 80] σ α σ46 α56 := by rw [e57]; exact qFr_r hF50 77 _ (by decide)
      refine qr_aload_n 41 rfl rfl rfl ?_
      refine qr_get 44 rfl rfl rfl (by decide) rfl ?_
      refine qr_aload_n 45 rfl rfl rfl ?_
      refine qr_get 48 rfl rfl rfl (by decide) rfl ?_
      refine qr_iload_n 49 rfl rfl rfl ?_
      refine qr_iastore 50 rfl (by decide) rfl (by omega) (by decide) rfl ?_
      refine qy_wA (qw_r α56 78 (qzu (α56 78) ((σ46 76 7) : Int).toNat x2)) rfl (fun α60 e61 => ?_)
      have hI62 : qI σ46 α60 κ ρ := by rw [e61, e57]; exact qI_r77 hI48 _ (show 0 ≤ x2 ∧ x2 ≤ 1919 by omega) (by omega)
      have hF63 : qFr [(76, 7), (76, 8)] [20, 33, 35, 41, 77, 78, 79, 80] σ α σ46 α60 := by rw [e61]; exact qFr_r hF59 78 _ (by decide)
      refine qr_aload_n 51 rfl rfl rfl ?_
      refine qr_get 54 rfl rfl rfl (by decide) rfl ?_
      refine qr_aload_n 55 rfl rfl rfl ?_
      refine qr_get 58 rfl rfl rfl (by decide) rfl ?_
      refine qr_iload 60 rfl rfl rfl ?_
      refine qr_iastore 61 rfl (by decide) rfl (by omega) (by decide) rfl ?_
      refine qy_wA (qw_r α60 79 (qzu (α60 79) ((σ46 76 7) : Int).toNat v1)) rfl (fun α64 e65 => ?_)
      have hI66 : qI σ46 α64 κ ρ := by rw [e65]; exact qI_r hI62 79 _ rfl (show (-2147483648) ≤ v1 ∧ v1 ≤ 2147483647 by omega)
      have hF67 : qFr [(76, 7), (76, 8)] [20, 33, 35, 41, 77, 78, 79, 80] σ α σ46 α64 := by rw [e65]; exact qFr_r hF63 79 _ (by decide)
      refine qr_aload_n 62 rfl rfl rfl ?_
      refine qr_get 65 rfl rfl rfl (by decide) rfl ?_
      refine qr_aload_n 66 rfl rfl rfl ?_
      refine qr_get 69 rfl rfl rfl (by decide) rfl ?_
      refine qr_iload_n 70 rfl rfl rfl ?_
      refine qr_iastore 71 rfl (by decide) rfl (by omega) (by decide) rfl ?_
      refine qy_wA (qw_r α64 80 (qzu (α64 80) ((σ46 76 7) : Int).toNat x3)) rfl (fun α68 e69 => ?_)
      have hI70 : qI σ46 α68 κ ρ := by rw [e69]; exact qI_r hI66 80 _ rfl (show (-2147483648) ≤ x3 ∧ x3 ≤ 2147483647 by omega)
      have hF71 : qFr [(76, 7), (76, 8)] [20, 33, 35, 41, 77, 78, 79, 80] σ α σ46 α68 := by rw [e69]; exact qFr_r hF67 80 _ (by decide)
      refine qr_aload_n 72 rfl rfl rfl ?_
      refine qr_dup 73 rfl rfl rfl ?_
      refine qr_get 76 rfl rfl rfl (by decide) rfl ?_
      refine qr_iconst 77 rfl rfl ?_
      refine qr_iadd 78 rfl rfl ?_
      refine qr_put 81 rfl (by decide) rfl (Nat.le_of_ble_eq_true rfl) (Nat.le_of_ble_eq_true rfl) (Or.inl rfl) (qr_fitI rfl _) rfl ?_
      refine qy_wS (qw_s σ46 76 7 ((σ46 76 7) + 1)) rfl (fun σ72 e73 => ?_)
      have hI74 : qI σ72 α68 κ ρ := by rw [e73]; exact qI_s hI70 76 7 rfl (show 0 ≤ ((σ46 76 7) + 1) ∧ ((σ46 76 7) + 1) ≤ 40 by omega)
      have hF75 : qFr [(76, 7), (76, 8)] [20, 33, 35, 41, 77, 78, 79, 80] σ α σ72 α68 := by rw [e73]; exact qFr_s hF71 76 7 _ (by decide)
      refine qr_aload_n 82 rfl rfl rfl ?_
      refine qr_aload_n 83 rfl rfl rfl ?_
      refine qr_get 86 rfl rfl rfl (by decide) rfl ?_
      refine qy_v ((σ46 76 7) + 1) ((congrFun (congrFun e73 76) 7).trans rfl) ?_
      refine qr_put 89 rfl (by decide) rfl (Nat.le_of_ble_eq_true rfl) (Nat.le_of_ble_eq_true rfl) (Or.inl rfl) (qr_fitI rfl _) rfl ?_
      refine qy_wS (qw_s σ72 76 8 ((σ46 76 7) + 1)) rfl (fun σ76 e77 => ?_)
      have hI78 : qI σ76 α68 κ ρ := by rw [e77]; exact qI_s hI74 76 8 rfl (show 0 ≤ ((σ46 76 7) + 1) ∧ ((σ46 76 7) + 1) ≤ 40 by omega)
      have hF79 : qFr [(76, 7), (76, 8)] [20, 33, 35, 41, 77, 78, 79, 80] σ α σ76 α68 := by rw [e77]; exact qFr_s hF75 76 8 _ (by decide)
      refine qr_aload_n 90 rfl rfl rfl ?_
      refine qr_iload_n 91 rfl rfl rfl ?_
      as_aux_lemma =>
        refine qr_iload_n 92 rfl rfl rfl ?_
        refine qr_iload_n 93 rfl rfl rfl ?_
        refine qr_callN 96 rfl rfl rfl (sf_55_76x (d := d + 1) hI78 r1 r2 r3 (by omega)) ?_
        rintro _ _ ⟨α84, rfl, hI85, hG86, rfl, hx80, hx81, hx82, hx83⟩
        have hF87 : qFr [(76, 7), (76, 8)] [20, 33, 35, 41, 77, 78, 79, 80] σ α σ76 α84 := qFr_t hF79 hG86 (by decide) (by decide)
        show qr_W (qe L xs vb) (d + 2) qx_e52 _ (96, _, [], qw σ76 α84 κ ρ, 0, 0)
        refine qr_iload 98 rfl rfl rfl ?_
        refine qr_retI rfl rfl (by decide) (by decide) ?_
        exact ⟨_, _, rfl, hI85, hF87, v1, rfl, hv1, by omega, (qHq_ch p0 p1 (by omega) (by omega) (by omega) p2 p3 r3 (fun z => absurd ((hp2).trans z) (by omega)) (hF87.1 17 6 (by decide)) (hF87.1 27 7 (by decide)) (hF87.1 34 7 (by decide)) (hF87.2 38 (by decide)) (hF87.2 39 (by decide)) (hF87.2 40 (by decide)) (by have hw : σ76 76 7 = ((σ46 76 7) + 1) := (congrFun (congrFun e77 76) 7).trans ((congrFun (congrFun e73 76) 7).trans rfl); omega) (by have hw : σ76 76 8 = ((σ46 76 7) + 1) := (congrFun (congrFun e77 76) 8).trans rfl; omega) ((((hG86.2 77 (by decide)).trans ((congrFun e69 77).trans ((qw_r_ne (by decide)).trans ((congrFun e65 77).trans ((qw_r_ne (by decide)).trans ((congrFun e61 77).trans ((qw_r_ne (by decide)).trans ((congrFun e57 77).trans (qw_r_eq.trans (congrArg (fun f => qzu f ((σ46 76 7) : Int).toNat x1) hs52))))))))))).trans (by rw [show ((σ46 76 7) : Int).toNat = (qdo (σ 76 7)).toNat by omega])) ((((hG86.2 78 (by decide)).trans ((congrFun e69 78).trans ((qw_r_ne (by decide)).trans ((congrFun e65 78).trans ((qw_r_ne (by decide)).trans ((congrFun e61 78).trans (qw_r_eq.trans (congrArg (fun f => qzu f ((σ46 76 7) : Int).toNat x2) ((congrFun e57 78).trans ((qw_r_ne (by decide)).trans hs53))))))))))).trans (by rw [show ((σ46 76 7) : Int).toNat = (qdo (σ 76 7)).toNat by omega])) ((((hG86.2 79 (by decide)).trans ((congrFun e69 79).trans ((qw_r_ne (by decide)).trans ((congrFun e65 79).trans (qw_r_eq.trans (congrArg (fun f => qzu f ((σ46 76 7) : Int).toNat v1) ((congrFun e61 79).trans ((qw_r_ne (by decide)).trans ((congrFun e57 79).trans ((qw_r_ne (by decide)).trans hs54))))))))))).trans (by rw [show ((σ46 76 7) : Int).toNat = (qdo (σ 76 7)).toNat by omega, hp2])) ((((hG86.2 80 (by decide)).trans ((congrFun e69 80).trans (qw_r_eq.trans (congrArg (fun f => qzu f ((σ46 76 7) : Int).toNat x3) ((congrFun e65 80).trans ((qw_r_ne (by decide)).trans ((congrFun e61 80).trans ((qw_r_ne (by decide)).trans ((congrFun e57 80).trans ((qw_r_ne (by decide)).trans hs55))))))))))).trans (by rw [show ((σ46 76 7) : Int).toNat = (qdo (σ 76 7)).toNat by omega])) (by have hz := hx81; rw [(show α68 33 = α 33 from ((congrFun e69 33).trans ((qw_r_ne (by decide)).trans ((congrFun e65 33).trans ((qw_r_ne (by decide)).trans ((congrFun e61 33).trans ((qw_r_ne (by decide)).trans ((congrFun e57 33).trans ((qw_r_ne (by decide)).trans ((hG49.2 33 (by decide)).trans rfl))))))))))] at hz; exact hz) (by have hz := hx83; rw [(show α68 41 = α 41 from ((congrFun e69 41).trans ((qw_r_ne (by decide)).trans ((congrFun e65 41).trans ((qw_r_ne (by decide)).trans ((congrFun e61 41).trans ((qw_r_ne (by decide)).trans ((congrFun e57 41).trans ((qw_r_ne (by decide)).trans ((hG49.2 41 (by decide)).trans rfl))))))))))] at hz; exact hz) (by have hz := hx80; rw [(show α68 20 = α 20 from ((congrFun e69 20).trans ((qw_r_ne (by decide)).trans ((congrFun e65 20).trans ((qw_r_ne (by decide)).trans ((congrFun e61 20).trans ((qw_r_ne (by decide)).trans ((congrFun e57 20).trans ((qw_r_ne (by decide)).trans ((hG49.2 20 (by decide)).trans rfl))))))))))] at hz; exact hz) (by have hz := hx82; rw [(show α68 35 = α 35 from ((congrFun e69 35).trans ((qw_r_ne (by decide)).trans ((congrFun e65 35).trans ((qw_r_ne (by decide)).trans ((congrFun e61 35).trans ((qw_r_ne (by decide)).trans ((congrFun e57 35).trans ((qw_r_ne (by decide)).trans ((hG49.2 35 (by decide)).trans rfl))))))))))] at hz; exact hz))⟩
  · skip
    refine qr_iload 16 rfl rfl rfl ?_
    refine qr_retI rfl rfl (by decide) (by decide) ?_
    exact ⟨_, _, rfl, hI, hF0, v1, rfl, hv1, by omega, (qHq_eq p0 p1 (by omega) (by omega) (by omega) p2 ((hp2).symm.trans (by omega)))⟩

set_option maxHeartbeats 4000000 in
set_option maxRecDepth 20000 in
/-- OneRoofModel.becomes -/
theorem sf_183_86x {L : Nat} {xs : Nat → Int} {vb : Bool} {d : Nat} {σ α : Nat → Nat → Int} {κ : Nat → Option Nat} {ρ : Nat} {x1 : Int} {x2 : Int} (hI : qI σ α κ ρ) (r1 : 0 ≤ x1 ∧ x1 ≤ 251) (r2 : (-2147483648) ≤ x2 ∧ x2 ≤ 2147483647) : qm_T (qe L xs vb) (d + 1) 183 [.ref 86, .int (qz x1), .int (qz x2)] (qw σ α κ ρ) (fun r w' => ∃ σ' α', w' = qw σ' α' κ ρ ∧ qI σ' α' κ ρ ∧ qFr [(86, 4), (86, 5)] [87, 88, 89, 90] σ α σ' α' ∧ ∃ v : Int, r = some (.int (qz v)) ∧ ((-2147483648) ≤ v ∧ v ≤ 2147483647) ∧ v = α 87 (x1 : Int).toNat ∧ (α' 87 = (qbec (α 87, α 88, α 89, α 90, σ 86 5, σ 86 4) x1 x2).1 ∧ α' 88 = (qbec (α 87, α 88, α 89, α 90, σ 86 5, σ 86 4) x1 x2).2.1 ∧ α' 89 = (qbec (α 87, α 88, α 89, α 90, σ 86 5, σ 86 4) x1 x2).2.2.1 ∧ α' 90 = (qbec (α 87, α 88, α 89, α 90, σ 86 5, σ 86 4) x1 x2).2.2.2.1 ∧ σ' 86 5 = (qbec (α 87, α 88, α 89, α 90, σ 86 5, σ 86 4) x1 x2).2.2.2.2.1 ∧ σ' 86 4 = (qbec (α 87, α 88, α 89, α 90, σ 86 5, σ 86 4) x1 x2).2.2.2.2.2)) := by
  refine qr_start (d := d + 0) qv_e183 (Nat.le_of_ble_eq_true rfl) ?_
  show qr_W (qe L xs vb) (d + 0) qx_e183 _ (0, [(0, .ref 86), (1, .int (qz x1)), (2, .int (qz x2))], [], _, 0, 0)
  have hF0 := qFr_rf [(86, 4), (86, 5)] [87, 88, 89, 90] σ α
  have hz86_4 : 0 ≤ σ 86 4 ∧ σ 86 4 ≤ 40 := hI.1 86 4
  have hz86_5 : 0 ≤ σ 86 5 ∧ σ 86 5 ≤ 40 := hI.1 86 5
  refine qr_aload_n 1 rfl rfl rfl ?_
  refine qr_get 4 rfl rfl rfl (by decide) rfl ?_
  refine qr_iload_n 5 rfl rfl rfl ?_
  refine qr_iaload 6 rfl rfl (qrgi r1 (by decide) (by decide)) (by decide) rfl ?_
  refine qr_topI (fun v1 hv1 => ?_)
  have hs2 : (-2147483648) ≤ v1 ∧ v1 ≤ 2147483647 := by rw [hv1]; exact hI.2.1 87 _ (show _ < 252 from qrgt r1 (by decide) (by decide))
  have hrv1 : v1 = (α 87) (x1 : Int).toNat := hv1
  refine qr_istore_n _ 7 rfl (by decide) rfl rfl ?_
  refine qr_iload_n 8 rfl rfl rfl ?_
  refine qr_iload_n 9 rfl rfl rfl ?_
  refine qr_icmp_ne 14 12 rfl rfl rfl hs2 r2 (fun h3 => ?_) (fun h3 => ?_)
  · skip
    refine qr_aload_n 15 rfl rfl rfl ?_
    refine qr_get 18 rfl rfl rfl (by decide) rfl ?_
    refine qr_bipush 20 rfl (by decide) rfl ?_
    refine qr_icmp_ne 97 23 rfl rfl rfl (qrg hz86_5 (by decide) (by decide)) (by decide) (fun h4 => ?_) (fun h4 => ?_)
    · skip
      have hdo : qdo (σ 86 5) = σ 86 5 := if_neg (by omega)
      have hs5 : α 88 = qfo (σ 86 5) (α 88) := (if_neg (by omega)).symm
      have hs6 : α 89 = qfo (σ 86 5) (α 89) := (if_neg (by omega)).symm
      have hs7 : α 90 = qfo (σ 86 5) (α 90) := (if_neg (by omega)).symm
      refine qr_aload_n 98 rfl rfl rfl ?_
      refine qr_get 101 rfl rfl rfl (by decide) rfl ?_
      refine qr_aload_n 102 rfl rfl rfl ?_
      refine qr_get 105 rfl rfl rfl (by decide) rfl ?_
      refine qr_iload_n 106 rfl rfl rfl ?_
      refine qr_iastore 107 rfl (by decide) rfl (by omega) (by decide) rfl ?_
      refine qy_wA (qw_r α 88 (qzu (α 88) ((σ 86 5) : Int).toNat x1)) rfl (fun α8 e9 => ?_)
      have hI10 : qI σ α8 κ ρ := by rw [e9]; exact qI_r hI 88 _ rfl (show 0 ≤ x1 ∧ x1 ≤ 251 by omega)
      have hF11 : qFr [(86, 4), (86, 5)] [87, 88, 89, 90] σ α σ α8 := by rw [e9]; exact qFr_r hF0 88 _ (by decide)
      refine qr_aload_n 108 rfl rfl rfl ?_
      refine qr_get 111 rfl rfl rfl (by decide) rfl ?_
      refine qr_aload_n 112 rfl rfl rfl ?_
      refine qr_get 115 rfl rfl rfl (by decide) rfl ?_
      refine qr_iload_n 116 rfl rfl rfl ?_
      refine qr_iastore 117 rfl (by decide) rfl (by omega) (by decide) rfl ?_
      refine qy_wA (qw_r α8 89 (qzu (α8 89) ((σ 86 5) : Int).toNat v1)) rfl (fun α12 e13 => ?_)
      have hI14 : qI σ α12 κ ρ := by rw [e13]; exact qI_r hI10 89 _ rfl (show (-2147483648) ≤ v1 ∧ v1 ≤ 2147483647 by omega)
      have hF15 : qFr [(86, 4), (86, 5)] [87, 88, 89, 90] σ α σ α12 := by rw [e13]; exact qFr_r hF11 89 _ (by decide)
      refine qr_aload_n 118 rfl rfl rfl ?_
      refine qr_get 121 rfl rfl rfl (by decide) rfl ?_
      refine qr_aload_n 122 rfl rfl rfl ?_
      refine qr_get 125 rfl rfl rfl (by decide) rfl ?_
      refine qr_iload_n 126 rfl rfl rfl ?_
      refine qr_iastore 127 rfl (by decide) rfl (by omega) (by decide) rfl ?_
      refine qy_wA (qw_r α12 90 (qzu (α12 90) ((σ 86 5) : Int).toNat x2)) rfl (fun α16 e17 => ?_)
      have hI18 : qI σ α16 κ ρ := by rw [e17]; exact qI_r hI14 90 _ rfl (show (-2147483648) ≤ x2 ∧ x2 ≤ 2147483647 by omega)
      have hF19 : qFr [(86, 4), (86, 5)] [87, 88, 89, 90] σ α σ α16 := by rw [e17]; exact qFr_r hF15 90 _ (by decide)
      refine qr_aload_n 128 rfl rfl rfl ?_
      refine qr_dup 129 rfl rfl rfl ?_
      refine qr_get 132 rfl rfl rfl (by decide) rfl ?_
      refine qr_iconst 133 rfl rfl ?_
      refine qr_iadd 134 rfl rfl ?_
      refine qr_put 137 rfl (by decide) rfl (Nat.le_of_ble_eq_true rfl) (Nat.le_of_ble_eq_true rfl) (Or.inl rfl) (qr_fitI rfl _) rfl ?_
      refine qy_wS (qw_s σ 86 5 ((σ 86 5) + 1)) rfl (fun σ20 e21 => ?_)
      have hF23 : qFr [(86, 4), (86, 5)] [87, 88, 89, 90] σ α σ20 α16 := by rw [e21]; exact qFr_s hF19 86 5 _ (by decide)
      refine qr_aload_n 138 rfl rfl rfl ?_
      refine qr_aload_n 139 rfl rfl rfl ?_
      refine qr_get 142 rfl rfl rfl (by decide) rfl ?_
      refine qy_v ((σ 86 5) + 1) ((congrFun (congrFun e21 86) 5).trans rfl) ?_
      refine qr_put 145 rfl (by decide) rfl (Nat.le_of_ble_eq_true rfl) (Nat.le_of_ble_eq_true rfl) (Or.inl rfl) (qr_fitI rfl _) rfl ?_
      refine qy_wS (qw_s σ20 86 4 ((σ 86 5) + 1)) rfl (fun σ24 e25 => ?_)
      have hI26 : qI σ24 α16 κ ρ := by rw [e25, e21]; exact qI_s54 hI18 (by omega)
      have hF27 : qFr [(86, 4), (86, 5)] [87, 88, 89, 90] σ α σ24 α16 := by rw [e25]; exact qFr_s hF23 86 4 _ (by decide)
      refine qr_aload_n 146 rfl rfl rfl ?_
      refine qr_get 149 rfl rfl rfl (by decide) rfl ?_
      refine qr_iload_n 150 rfl rfl rfl ?_
      refine qr_iload_n 151 rfl rfl rfl ?_
      refine qr_iastore 152 rfl (by decide) rfl (qrgi r1 (by decide) (by decide)) (by decide) rfl ?_
      refine qy_wA (qw_r α16 87 (qzu (α16 87) (x1 : Int).toNat x2)) rfl (fun α28 e29 => ?_)
      have hI30 : qI σ24 α28 κ ρ := by rw [e29]; exact qI_r hI26 87 _ rfl (show (-2147483648) ≤ x2 ∧ x2 ≤ 2147483647 by omega)
      have hF31 : qFr [(86, 4), (86, 5)] [87, 88, 89, 90] σ α σ24 α28 := by rw [e29]; exact qFr_r hF27 87 _ (by decide)
      refine qr_iload_n 153 rfl rfl rfl ?_
      refine qr_retI rfl rfl (by decide) (by decide) ?_
      exact ⟨_, _, rfl, hI30, hF31, v1, rfl, hs2, by omega, (by have hb : qbec (α 87, α 88, α 89, α 90, σ 86 5, σ 86 4) x1 x2 = (qzu (α 87) (x1 : Int).toNat x2, qzu (qfo (σ 86 5) (α 88)) (qdo (σ 86 5)).toNat x1, qzu (qfo (σ 86 5) (α 89)) (qdo (σ 86 5)).toNat (α 87 (x1 : Int).toNat), qzu (qfo (σ 86 5) (α 90)) (qdo (σ 86 5)).toNat x2, qdo (σ 86 5) + 1, qdo (σ 86 5) + 1) := if_neg (show ¬ α 87 (x1 : Int).toNat = x2 by rw [← hv1]; omega); rw [hb]; exact ⟨((congrFun e29 87).trans (qw_r_eq.trans (congrArg (fun f => qzu f (x1 : Int).toNat x2) ((congrFun e17 87).trans ((qw_r_ne (by decide)).trans ((congrFun e13 87).trans ((qw_r_ne (by decide)).trans ((congrFun e9 87).trans ((qw_r_ne (by decide)).trans rfl))))))))), (((congrFun e29 88).trans ((qw_r_ne (by decide)).trans ((congrFun e17 88).trans ((qw_r_ne (by decide)).trans ((congrFun e13 88).trans ((qw_r_ne (by decide)).trans ((congrFun e9 88).trans (qw_r_eq.trans (congrArg (fun f => qzu f ((σ 86 5) : Int).toNat x1) hs5)))))))))).trans (by rw [show ((σ 86 5) : Int).toNat = (qdo (σ 86 5)).toNat by omega]), (((congrFun e29 89).trans ((qw_r_ne (by decide)).trans ((congrFun e17 89).trans ((qw_r_ne (by decide)).trans ((congrFun e13 89).trans (qw_r_eq.trans (congrArg (fun f => qzu f ((σ 86 5) : Int).toNat v1) ((congrFun e9 89).trans ((qw_r_ne (by decide)).trans hs6)))))))))).trans (by rw [show ((σ 86 5) : Int).toNat = (qdo (σ 86 5)).toNat by omega, hv1]), (((congrFun e29 90).trans ((qw_r_ne (by decide)).trans ((congrFun e17 90).trans (qw_r_eq.trans (congrArg (fun f => qzu f ((σ 86 5) : Int).toNat x2) ((congrFun e13 90).trans ((qw_r_ne (by decide)).trans ((congrFun e9 90).trans ((qw_r_ne (by decide)).trans hs7)))))))))).trans (by rw [show ((σ 86 5) : Int).toNat = (qdo (σ 86 5)).toNat by omega]), (show σ24 86 5 = qdo (σ 86 5) + 1 by have hw : σ24 86 5 = ((σ 86 5) + 1) := (congrFun (congrFun e25 86) 5).trans ((congrFun (congrFun e21 86) 5).trans rfl); omega), (show σ24 86 4 = qdo (σ 86 5) + 1 by have hw : σ24 86 4 = ((σ 86 5) + 1) := (congrFun (congrFun e25 86) 4).trans rfl; omega)⟩)⟩
    · skip
      refine qr_iconst 24 rfl rfl ?_
      refine qr_istore _ 26 rfl (by decide) rfl rfl ?_
      have hL608 : ∀ (n : Nat) (ls : qm_L) (u598 : Int) (α600 : Nat → Nat → Int), 40 - u598 < (n : Int) → qm_get ls 0 = some (.ref 86) → qm_get ls 1 = some (.int (qz x1)) → qm_get ls 2 = some (.int (qz x2)) → qm_get ls 3 = some (.int (qz v1)) → qm_get ls 4 = some (.int (qz u598)) → (1 ≤ u598 ∧ u598 ≤ 40) → qI σ α600 κ ρ → qFr [(86, 4), (86, 5)] [87, 88, 89, 90] σ α σ α600 → α600 87 = (α 87) → α600 88 = (qsl (α 88) (u598 - 1 : Int).toNat) → α600 89 = (qsl (α 89) (u598 - 1 : Int).toNat) → α600 90 = (qsl (α 90) (u598 - 1 : Int).toNat) → qr_W (qe L xs vb) (d + 0) qx_e183 (fun r w' => ∃ σ' α', w' = qw σ' α' κ ρ ∧ qI σ' α' κ ρ ∧ qFr [(86, 4), (86, 5)] [87, 88, 89, 90] σ α σ' α' ∧ ∃ v : Int, r = some (.int (qz v)) ∧ ((-2147483648) ≤ v ∧ v ≤ 2147483647) ∧ v = α 87 (x1 : Int).toNat ∧ (α' 87 = (qbec (α 87, α 88, α 89, α 90, σ 86 5, σ 86 4) x1 x2).1 ∧ α' 88 = (qbec (α 87, α 88, α 89, α 90, σ 86 5, σ 86 4) x1 x2).2.1 ∧ α' 89 = (qbec (α 87, α 88, α 89, α 90, σ 86 5, σ 86 4) x1 x2).2.2.1 ∧ α' 90 = (qbec (α 87, α 88, α 89, α 90, σ 86 5, σ 86 4) x1 x2).2.2.2.1 ∧ σ' 86 5 = (qbec (α 87, α 88, α 89, α 90, σ 86 5, σ 86 4) x1 x2).2.2.2.2.1 ∧ σ' 86 4 = (qbec (α 87, α 88, α 89, α 90, σ 86 5, σ 86 4) x1 x2).2.2.2.2.2)) (26, ls, [], qw σ α600 κ ρ, 0, 0) := by
        intro n
        induction n with
        | zero => intro ls u598 α600 hm g593 g594 g595 g596 g597 hf604 hI601 hF602 hk603 hx605 hx606 hx607; exact False.elim (by omega)
        | succ n ih609 =>
          intro ls u598 α600 hm g593 g594 g595 g596 g597 hf604 hI601 hF602 hk603 hx605 hx606 hx607
          refine qr_iload 28 rfl g597 rfl ?_
          refine qr_bipush 30 rfl (by decide) rfl ?_
          refine qr_icmp_ge 87 33 rfl rfl rfl (qrg hf604 (by decide) (by decide)) (by decide) (fun h610 => ?_) (fun h610 => ?_)
          · skip
            have hdo : qdo (σ 86 5) = 39 := if_pos (by omega)
            have hs611 : α600 88 = qfo (σ 86 5) (α 88) := (hx605).trans (by unfold qfo; rw [if_pos (by omega), show (u598 - 1 : Int).toNat = 39 by omega])
            have hs612 : α600 89 = qfo (σ 86 5) (α 89) := (hx606).trans (by unfold qfo; rw [if_pos (by omega), show (u598 - 1 : Int).toNat = 39 by omega])
            have hs613 : α600 90 = qfo (σ 86 5) (α 90) := (hx607).trans (by unfold qfo; rw [if_pos (by omega), show (u598 - 1 : Int).toNat = 39 by omega])
            refine qr_aload_n 88 rfl g593 rfl ?_
            refine qr_dup 89 rfl rfl rfl ?_
            refine qr_get 92 rfl rfl rfl (by decide) rfl ?_
            refine qr_iconst 93 rfl rfl ?_
            refine qr_isub 94 rfl rfl ?_
            refine qr_put 97 rfl (by decide) rfl (Nat.le_of_ble_eq_true rfl) (Nat.le_of_ble_eq_true rfl) (Or.inl rfl) (qr_fitI rfl _) rfl ?_
            refine qy_wS (qw_s σ 86 5 ((σ 86 5) - 1)) rfl (fun σ614 e615 => ?_)
            have hI616 : qI σ614 α600 κ ρ := by rw [e615]; exact qI_s5 hI601 (by omega) (by have hw : σ 86 4 = (σ 86 4) := rfl; have hw2 := hI601.2.2.2.2.2.2.2.1; have hw3 : σ 86 5 = (σ 86 5) := rfl; omega)
            have hF617 : qFr [(86, 4), (86, 5)] [87, 88, 89, 90] σ α σ614 α600 := by rw [e615]; exact qFr_s hF602 86 5 _ (by decide)
            refine qr_aload_n 98 rfl g593 rfl ?_
            refine qr_get 101 rfl rfl rfl (by decide) rfl ?_
            refine qr_aload_n 102 rfl g593 rfl ?_
            refine qr_get 105 rfl rfl rfl (by decide) rfl ?_
            refine qy_v ((σ 86 5) - 1) ((congrFun (congrFun e615 86) 5).trans rfl) ?_
            refine qr_iload_n 106 rfl g594 rfl ?_
            refine qr_iastore 107 rfl (by decide) rfl (by omega) (by decide) rfl ?_
            refine qy_wA (qw_r α600 88 (qzu (α600 88) (((σ 86 5) - 1) : Int).toNat x1)) rfl (fun α618 e619 => ?_)
            have hI620 : qI σ614 α618 κ ρ := by rw [e619]; exact qI_r hI616 88 _ rfl (show 0 ≤ x1 ∧ x1 ≤ 251 by omega)
            have hF621 : qFr [(86, 4), (86, 5)] [87, 88, 89, 90] σ α σ614 α618 := by rw [e619]; exact qFr_r hF617 88 _ (by decide)
            refine qr_aload_n 108 rfl g593 rfl ?_
            refine qr_get 111 rfl rfl rfl (by decide) rfl ?_
            refine qr_aload_n 112 rfl g593 rfl ?_
            refine qr_get 115 rfl rfl rfl (by decide) rfl ?_
            refine qy_v ((σ 86 5) - 1) ((congrFun (congrFun e615 86) 5).trans rfl) ?_
            refine qr_iload_n 116 rfl g596 rfl ?_
            refine qr_iastore 117 rfl (by decide) rfl (by omega) (by decide) rfl ?_
            refine qy_wA (qw_r α618 89 (qzu (α618 89) (((σ 86 5) - 1) : Int).toNat v1)) rfl (fun α622 e623 => ?_)
            have hI624 : qI σ614 α622 κ ρ := by rw [e623]; exact qI_r hI620 89 _ rfl (show (-2147483648) ≤ v1 ∧ v1 ≤ 2147483647 by omega)
            have hF625 : qFr [(86, 4), (86, 5)] [87, 88, 89, 90] σ α σ614 α622 := by rw [e623]; exact qFr_r hF621 89 _ (by decide)
            refine qr_aload_n 118 rfl g593 rfl ?_
            refine qr_get 121 rfl rfl rfl (by decide) rfl ?_
            refine qr_aload_n 122 rfl g593 rfl ?_
            refine qr_get 125 rfl rfl rfl (by decide) rfl ?_
            refine qy_v ((σ 86 5) - 1) ((congrFun (congrFun e615 86) 5).trans rfl) ?_
            refine qr_iload_n 126 rfl g595 rfl ?_
            refine qr_iastore 127 rfl (by decide) rfl (by omega) (by decide) rfl ?_
            refine qy_wA (qw_r α622 90 (qzu (α622 90) (((σ 86 5) - 1) : Int).toNat x2)) rfl (fun α626 e627 => ?_)
            have hI628 : qI σ614 α626 κ ρ := by rw [e627]; exact qI_r hI624 90 _ rfl (show (-2147483648) ≤ x2 ∧ x2 ≤ 2147483647 by omega)
            have hF629 : qFr [(86, 4), (86, 5)] [87, 88, 89, 90] σ α σ614 α626 := by rw [e627]; exact qFr_r hF625 90 _ (by decide)
            refine qr_aload_n 128 rfl g593 rfl ?_
            refine qr_dup 129 rfl rfl rfl ?_
            refine qr_get 132 rfl rfl rfl (by decide) rfl ?_
            refine qy_v ((σ 86 5) - 1) ((congrFun (congrFun e615 86) 5).trans rfl) ?_
            refine qr_iconst 133 rfl rfl ?_
            refine qr_iadd 134 rfl rfl ?_
            refine qr_put 137 rfl (by decide) rfl (Nat.le_of_ble_eq_true rfl) (Nat.le_of_ble_eq_true rfl) (Or.inl rfl) (qr_fitI rfl _) rfl ?_
            refine qy_wS (qw_s σ614 86 5 (((σ 86 5) - 1) + 1)) rfl (fun σ630 e631 => ?_)
            have hF633 : qFr [(86, 4), (86, 5)] [87, 88, 89, 90] σ α σ630 α626 := by rw [e631]; exact qFr_s hF629 86 5 _ (by decide)
            refine qr_aload_n 138 rfl g593 rfl ?_
            refine qr_aload_n 139 rfl g593 rfl ?_
            refine qr_get 142 rfl rfl rfl (by decide) rfl ?_
            refine qy_v (((σ 86 5) - 1) + 1) ((congrFun (congrFun e631 86) 5).trans rfl) ?_
            refine qr_put 145 rfl (by decide) rfl (Nat.le_of_ble_eq_true rfl) (Nat.le_of_ble_eq_true rfl) (Or.inl rfl) (qr_fitI rfl _) rfl ?_
            refine qy_wS (qw_s σ630 86 4 (((σ 86 5) - 1) + 1)) rfl (fun σ634 e635 => ?_)
            have hI636 : qI σ634 α626 κ ρ := by rw [e635, e631]; exact qI_s54 hI628 (by omega)
            have hF637 : qFr [(86, 4), (86, 5)] [87, 88, 89, 90] σ α σ634 α626 := by rw [e635]; exact qFr_s hF633 86 4 _ (by decide)
            refine qr_aload_n 146 rfl g593 rfl ?_
            refine qr_get 149 rfl rfl rfl (by decide) rfl ?_
            refine qr_iload_n 150 rfl g594 rfl ?_
            refine qr_iload_n 151 rfl g595 rfl ?_
            refine qr_iastore 152 rfl (by decide) rfl (qrgi r1 (by decide) (by decide)) (by decide) rfl ?_
            refine qy_wA (qw_r α626 87 (qzu (α626 87) (x1 : Int).toNat x2)) rfl (fun α638 e639 => ?_)
            have hI640 : qI σ634 α638 κ ρ := by rw [e639]; exact qI_r hI636 87 _ rfl (show (-2147483648) ≤ x2 ∧ x2 ≤ 2147483647 by omega)
            have hF641 : qFr [(86, 4), (86, 5)] [87, 88, 89, 90] σ α σ634 α638 := by rw [e639]; exact qFr_r hF637 87 _ (by decide)
            refine qr_iload_n 153 rfl g596 rfl ?_
            refine qr_retI rfl rfl (by decide) (by decide) ?_
            exact ⟨_, _, rfl, hI640, hF641, v1, rfl, hs2, by omega, (by have hb : qbec (α 87, α 88, α 89, α 90, σ 86 5, σ 86 4) x1 x2 = (qzu (α 87) (x1 : Int).toNat x2, qzu (qfo (σ 86 5) (α 88)) (qdo (σ 86 5)).toNat x1, qzu (qfo (σ 86 5) (α 89)) (qdo (σ 86 5)).toNat (α 87 (x1 : Int).toNat), qzu (qfo (σ 86 5) (α 90)) (qdo (σ 86 5)).toNat x2, qdo (σ 86 5) + 1, qdo (σ 86 5) + 1) := if_neg (show ¬ α 87 (x1 : Int).toNat = x2 by rw [← hv1]; omega); rw [hb]; exact ⟨((congrFun e639 87).trans (qw_r_eq.trans (congrArg (fun f => qzu f (x1 : Int).toNat x2) ((congrFun e627 87).trans ((qw_r_ne (by decide)).trans ((congrFun e623 87).trans ((qw_r_ne (by decide)).trans ((congrFun e619 87).trans ((qw_r_ne (by decide)).trans hk603))))))))), (((congrFun e639 88).trans ((qw_r_ne (by decide)).trans ((congrFun e627 88).trans ((qw_r_ne (by decide)).trans ((congrFun e623 88).trans ((qw_r_ne (by decide)).trans ((congrFun e619 88).trans (qw_r_eq.trans (congrArg (fun f => qzu f (((σ 86 5) - 1) : Int).toNat x1) hs611)))))))))).trans (by rw [show (((σ 86 5) - 1) : Int).toNat = (qdo (σ 86 5)).toNat by omega]), (((congrFun e639 89).trans ((qw_r_ne (by decide)).trans ((congrFun e627 89).trans ((qw_r_ne (by decide)).trans ((congrFun e623 89).trans (qw_r_eq.trans (congrArg (fun f => qzu f (((σ 86 5) - 1) : Int).toNat v1) ((congrFun e619 89).trans ((qw_r_ne (by decide)).trans hs612)))))))))).trans (by rw [show (((σ 86 5) - 1) : Int).toNat = (qdo (σ 86 5)).toNat by omega, hv1]), (((congrFun e639 90).trans ((qw_r_ne (by decide)).trans ((congrFun e627 90).trans (qw_r_eq.trans (congrArg (fun f => qzu f (((σ 86 5) - 1) : Int).toNat x2) ((congrFun e623 90).trans ((qw_r_ne (by decide)).trans ((congrFun e619 90).trans ((qw_r_ne (by decide)).trans hs613)))))))))).trans (by rw [show (((σ 86 5) - 1) : Int).toNat = (qdo (σ 86 5)).toNat by omega]), (show σ634 86 5 = qdo (σ 86 5) + 1 by have hw : σ634 86 5 = (((σ 86 5) - 1) + 1) := (congrFun (congrFun e635 86) 5).trans ((congrFun (congrFun e631 86) 5).trans rfl); omega), (show σ634 86 4 = qdo (σ 86 5) + 1 by have hw : σ634 86 4 = (((σ 86 5) - 1) + 1) := (congrFun (congrFun e635 86) 4).trans rfl; omega)⟩)⟩
          · skip
            refine qr_aload_n 34 rfl g593 rfl ?_
            refine qr_get 37 rfl rfl rfl (by decide) rfl ?_
            refine qr_iload 39 rfl g597 rfl ?_
            refine qr_iconst 40 rfl rfl ?_
            refine qr_isub 41 rfl rfl ?_
            refine qr_aload_n 42 rfl g593 rfl ?_
            refine qr_get 45 rfl rfl rfl (by decide) rfl ?_
            refine qr_iload 47 rfl g597 rfl ?_
            refine qr_iaload 48 rfl rfl (by omega) (by decide) rfl ?_
            refine qr_topI (fun v642 hv642 => ?_)
            have hs643 : 0 ≤ v642 ∧ v642 ≤ 251 := by rw [hv642]; exact hI601.2.1 88 _ (show _ < 40 by omega)
            have hrv642 : v642 = (qsl (α 88) (u598 - 1 : Int).toNat) (u598 : Int).toNat := hv642.trans (congrFun hx605 _)
            refine qr_iastore 49 rfl (by decide) rfl (by omega) (by decide) rfl ?_
            refine qy_wA (qw_r α600 88 (qzu (α600 88) ((u598 - 1) : Int).toNat v642)) rfl (fun α644 e645 => ?_)
            have hI646 : qI σ α644 κ ρ := by rw [e645]; exact qI_r hI601 88 _ rfl (show 0 ≤ v642 ∧ v642 ≤ 251 by omega)
            have hF647 : qFr [(86, 4), (86, 5)] [87, 88, 89, 90] σ α σ α644 := by rw [e645]; exact qFr_r hF602 88 _ (by decide)
            refine qr_aload_n 50 rfl g593 rfl ?_
            refine qr_get 53 rfl rfl rfl (by decide) rfl ?_
            refine qr_iload 55 rfl g597 rfl ?_
            refine qr_iconst 56 rfl rfl ?_
            refine qr_isub 57 rfl rfl ?_
            refine qr_aload_n 58 rfl g593 rfl ?_
            refine qr_get 61 rfl rfl rfl (by decide) rfl ?_
            refine qr_iload 63 rfl g597 rfl ?_
            refine qr_iaload 64 rfl rfl (by omega) (by decide) rfl ?_
            refine qr_topI (fun v648 hv648 => ?_)
            have hs649 : (-2147483648) ≤ v648 ∧ v648 ≤ 2147483647 := by rw [hv648]; exact hI646.2.1 89 _ (show _ < 40 by omega)
            have hrv648 : v648 = (qsl (α 89) (u598 - 1 : Int).toNat) (u598 : Int).toNat := hv648.trans (congrFun ((congrFun e645 89).trans ((qw_r_ne (by decide)).trans hx606)) _)
            refine qr_iastore 65 rfl (by decide) rfl (by omega) (by decide) rfl ?_
            refine qy_wA (qw_r α644 89 (qzu (α644 89) ((u598 - 1) : Int).toNat v648)) rfl (fun α650 e651 => ?_)
            have hI652 : qI σ α650 κ ρ := by rw [e651]; exact qI_r hI646 89 _ rfl (show (-2147483648) ≤ v648 ∧ v648 ≤ 2147483647 by omega)
            have hF653 : qFr [(86, 4), (86, 5)] [87, 88, 89, 90] σ α σ α650 := by rw [e651]; exact qFr_r hF647 89 _ (by decide)
            refine qr_aload_n 66 rfl g593 rfl ?_
            refine qr_get 69 rfl rfl rfl (by decide) rfl ?_
            refine qr_iload 71 rfl g597 rfl ?_
            refine qr_iconst 72 rfl rfl ?_
            refine qr_isub 73 rfl rfl ?_
            refine qr_aload_n 74 rfl g593 rfl ?_
            refine qr_get 77 rfl rfl rfl (by decide) rfl ?_
            refine qr_iload 79 rfl g597 rfl ?_
            refine qr_iaload 80 rfl rfl (by omega) (by decide) rfl ?_
            refine qr_topI (fun v654 hv654 => ?_)
            have hs655 : (-2147483648) ≤ v654 ∧ v654 ≤ 2147483647 := by rw [hv654]; exact hI652.2.1 90 _ (show _ < 40 by omega)
            have hrv654 : v654 = (qsl (α 90) (u598 - 1 : Int).toNat) (u598 : Int).toNat := hv654.trans (congrFun ((congrFun e651 90).trans ((qw_r_ne (by decide)).trans ((congrFun e645 90).trans ((qw_r_ne (by decide)).trans hx607)))) _)
            refine qr_iastore 81 rfl (by decide) rfl (by omega) (by decide) rfl ?_
            refine qy_wA (qw_r α650 90 (qzu (α650 90) ((u598 - 1) : Int).toNat v654)) rfl (fun α656 e657 => ?_)
            have hI658 : qI σ α656 κ ρ := by rw [e657]; exact qI_r hI652 90 _ rfl (show (-2147483648) ≤ v654 ∧ v654 ≤ 2147483647 by omega)
            have hF659 : qFr [(86, 4), (86, 5)] [87, 88, 89, 90] σ α σ α656 := by rw [e657]; exact qFr_r hF653 90 _ (by decide)
            refine qr_iinc _ 84 rfl g597 (by decide) rfl rfl ?_
            refine qr_goto 26 rfl rfl ?_
            exact ih609 _ (u598 + 1) α656 (by omega) (qm_gk g593 (by decide) (Or.inl (by decide))) (qm_gk g594 (by decide) (Or.inl (by decide))) (qm_gk g595 (by decide) (Or.inl (by decide))) (qm_gk g596 (by decide) (Or.inr rfl)) (qm_ge _ _ _) (by omega) hI658 hF659 ((congrFun e657 87).trans ((qw_r_ne (by decide)).trans ((congrFun e651 87).trans ((qw_r_ne (by decide)).trans ((congrFun e645 87).trans ((qw_r_ne (by decide)).trans hk603)))))) ((((congrFun e657 88).trans ((qw_r_ne (by decide)).trans ((congrFun e651 88).trans ((qw_r_ne (by decide)).trans ((congrFun e645 88).trans (qw_r_eq.trans (congrArg (fun f => qzu f ((u598 - 1) : Int).toNat v642) hx605)))))))).trans (by rw [show v642 = α 88 ((u598 - 1 : Int).toNat + 1) from (by rw [hrv642]; exact (if_neg (by omega)).trans (congrArg (α 88) (by omega))), show (u598 + 1 - 1 : Int).toNat = (u598 - 1 : Int).toNat + 1 by omega]; exact qsl_s _ _)) ((((congrFun e657 89).trans ((qw_r_ne (by decide)).trans ((congrFun e651 89).trans (qw_r_eq.trans (congrArg (fun f => qzu f ((u598 - 1) : Int).toNat v648) ((congrFun e645 89).trans ((qw_r_ne (by decide)).trans hx606)))))))).trans (by rw [show v648 = α 89 ((u598 - 1 : Int).toNat + 1) from (by rw [hrv648]; exact (if_neg (by omega)).trans (congrArg (α 89) (by omega))), show (u598 + 1 - 1 : Int).toNat = (u598 - 1 : Int).toNat + 1 by omega]; exact qsl_s _ _)) ((((congrFun e657 90).trans (qw_r_eq.trans (congrArg (fun f => qzu f ((u598 - 1) : Int).toNat v654) ((congrFun e651 90).trans ((qw_r_ne (by decide)).trans ((congrFun e645 90).trans ((qw_r_ne (by decide)).trans hx607)))))))).trans (by rw [show v654 = α 90 ((u598 - 1 : Int).toNat + 1) from (by rw [hrv654]; exact (if_neg (by omega)).trans (congrArg (α 90) (by omega))), show (u598 + 1 - 1 : Int).toNat = (u598 - 1 : Int).toNat + 1 by omega]; exact qsl_s _ _))
      exact hL608 ((40 - 1 + 1 : Int)).toNat _ 1 α (by omega) rfl rfl rfl rfl rfl (by decide) hI hF0 rfl (by rw [show (1 - 1 : Int).toNat = 0 from rfl, qsl_0]) (by rw [show (1 - 1 : Int).toNat = 0 from rfl, qsl_0]) (by rw [show (1 - 1 : Int).toNat = 0 from rfl, qsl_0])
  · skip
    refine qr_iload_n 13 rfl rfl rfl ?_
    refine qr_retI rfl rfl (by decide) (by decide) ?_
    exact ⟨_, _, rfl, hI, hF0, v1, rfl, hs2, by omega, (by refine ⟨?_, ?_, ?_, ?_, ?_, ?_⟩ <;> rw [show qbec (α 87, α 88, α 89, α 90, σ 86 5, σ 86 4) x1 x2 = (α 87, α 88, α 89, α 90, σ 86 5, σ 86 4) from if_pos (show α 87 (x1 : Int).toNat = x2 by rw [← hv1]; omega)])⟩

set_option maxHeartbeats 4000000 in
set_option maxRecDepth 20000 in
/-- OneRoof$History.back -/
theorem sf_145_76x {L : Nat} {xs : Nat → Int} {vb : Bool} {d : Nat} {σ α : Nat → Nat → Int} {κ : Nat → Option Nat} {ρ : Nat} {h : qHS} (hI : qI σ α κ ρ) (p0 : qHq σ α h) (p1 : qCh h) : qm_T (qe L xs vb) (d + 2) 145 [.ref 76] (qw σ α κ ρ) (fun r w' => ∃ σ' α', w' = qw σ' α' κ ρ ∧ qI σ' α' κ ρ ∧ qFr [(76, 7)] [20, 33, 35, 41] σ α σ' α' ∧ ∃ v : Int, r = some (.int (qz v)) ∧ ((-2147483648) ≤ v ∧ v ≤ 2147483647) ∧ ((v = -5 ∧ ¬ 0 < σ 76 7 ∧ qHq σ' α' h) ∨ (v = σ 76 7 - 1 ∧ 0 < σ 76 7 ∧ qHq σ' α' (qund h)))) := by
  refine qr_start (d := d + 1) qv_e145 (Nat.le_of_ble_eq_true rfl) ?_
  show qr_W (qe L xs vb) (d + 1) qx_e145 _ (0, [(0, .ref 76)], [], _, 0, 0)
  have hF0 := qFr_rf [(76, 7)] [20, 33, 35, 41] σ α
  have hg := p0.2.1
  have hgd := p0.2.2.1
  have hz17_6 : 0 ≤ σ 17 6 ∧ σ 17 6 ≤ 32 := hI.1 17 6
  have hz27_7 : 0 ≤ σ 27 7 ∧ σ 27 7 ≤ 40 := hI.1 27 7
  have hz34_7 : 0 ≤ σ 34 7 ∧ σ 34 7 ≤ 60 := hI.1 34 7
  have hz76_7 : 0 ≤ σ 76 7 ∧ σ 76 7 ≤ 40 := hI.1 76 7
  have hz76_8 : 0 ≤ σ 76 8 ∧ σ 76 8 ≤ 40 := hI.1 76 8
  refine qr_aload_n 1 rfl rfl rfl ?_
  refine qr_get 4 rfl rfl rfl (by decide) rfl ?_
  refine qr_if_gt 10 7 rfl rfl rfl (qrg hz76_7 (by decide) (by decide)) (fun h1 => ?_) (fun h1 => ?_)
  · skip
    refine qr_aload_n 11 rfl rfl rfl ?_
    refine qr_dup 12 rfl rfl rfl ?_
    refine qr_get 15 rfl rfl rfl (by decide) rfl ?_
    refine qr_iconst 16 rfl rfl ?_
    refine qr_isub 17 rfl rfl ?_
    refine qr_put 20 rfl (by decide) rfl (Nat.le_of_ble_eq_true rfl) (Nat.le_of_ble_eq_true rfl) (Or.inl rfl) (qr_fitI rfl _) rfl ?_
    refine qy_wS (qw_s σ 76 7 ((σ 76 7) - 1)) rfl (fun σ2 e3 => ?_)
    have hI4 : qI σ2 α κ ρ := by rw [e3]; exact qI_s hI 76 7 rfl (show 0 ≤ ((σ 76 7) - 1) ∧ ((σ 76 7) - 1) ≤ 40 by omega)
    have hF5 : qFr [(76, 7)] [20, 33, 35, 41] σ α σ2 α := by rw [e3]; exact qFr_s hF0 76 7 _ (by decide)
    refine qr_aload_n 21 rfl rfl rfl ?_
    refine qr_aload_n 22 rfl rfl rfl ?_
    refine qr_get 25 rfl rfl rfl (by decide) rfl ?_
    refine qr_aload_n 26 rfl rfl rfl ?_
    refine qr_get 29 rfl rfl rfl (by decide) rfl ?_
    refine qy_v ((σ 76 7) - 1) ((congrFun (congrFun e3 76) 7).trans rfl) ?_
    refine qr_iaload 30 rfl rfl (by omega) (by decide) rfl ?_
    refine qr_topI (fun v6 hv6 => ?_)
    have hs7 : (-2147483648) ≤ v6 ∧ v6 ≤ 2147483647 := by rw [hv6]; exact hI4.2.1 77 _ (show _ < 40 by omega)
    refine qr_aload_n 31 rfl rfl rfl ?_
    refine qr_get 34 rfl rfl rfl (by decide) rfl ?_
    refine qr_aload_n 35 rfl rfl rfl ?_
    refine qr_get 38 rfl rfl rfl (by decide) rfl ?_
    refine qy_v ((σ 76 7) - 1) ((congrFun (congrFun e3 76) 7).trans rfl) ?_
    refine qr_iaload 39 rfl rfl (by omega) (by decide) rfl ?_
    refine qr_topI (fun v8 hv8 => ?_)
    have hs9 : 0 ≤ v8 ∧ v8 ≤ 1919 := by rw [hv8]; exact hI4.2.1 78 _ (show _ < 40 by omega)
    have hs10 := hI4.2.2.2.2.2.1 (((σ 76 7) - 1) : Int).toNat (by omega)
    refine qr_aload_n 40 rfl rfl rfl ?_
    refine qr_get 43 rfl rfl rfl (by decide) rfl ?_
    refine qr_aload_n 44 rfl rfl rfl ?_
    refine qr_get 47 rfl rfl rfl (by decide) rfl ?_
    refine qy_v ((σ 76 7) - 1) ((congrFun (congrFun e3 76) 7).trans rfl) ?_
    refine qr_iaload 48 rfl rfl (by omega) (by decide) rfl ?_
    refine qr_topI (fun v11 hv11 => ?_)
    have hs12 : (-2147483648) ≤ v11 ∧ v11 ≤ 2147483647 := by rw [hv11]; exact hI4.2.1 79 _ (show _ < 40 by omega)
    have hpl : (α 77 (σ 76 7 - 1 : Int).toNat = 0 ∧ 0 ≤ α 78 (σ 76 7 - 1 : Int).toNat ∧ α 78 (σ 76 7 - 1 : Int).toNat < σ 27 7) ∨ (α 77 (σ 76 7 - 1 : Int).toNat = 1 ∧ 0 ≤ α 78 (σ 76 7 - 1 : Int).toNat ∧ α 78 (σ 76 7 - 1 : Int).toNat < 32 * σ 34 7) ∨ (α 77 (σ 76 7 - 1 : Int).toNat = 2 ∧ 0 ≤ α 78 (σ 76 7 - 1 : Int).toNat ∧ α 78 (σ 76 7 - 1 : Int).toNat < σ 17 6) ∨ (α 77 (σ 76 7 - 1 : Int).toNat = 3 ∧ 0 ≤ α 78 (σ 76 7 - 1 : Int).toNat ∧ α 78 (σ 76 7 - 1 : Int).toNat < σ 34 7) := (p0.2.2.2 (σ 76 7 - 1 : Int).toNat (by omega)).1
    rw [← hv6, ← hv8] at hpl
    refine qr_callN 51 rfl rfl rfl (sf_55_76x (d := d + 0) hI4 (by omega) hs9 hs12 (by omega)) ?_
    rintro _ _ ⟨α17, rfl, hI18, hG19, rfl, hx13, hx14, hx15, hx16⟩
    have hF20 : qFr [(76, 7)] [20, 33, 35, 41] σ α σ2 α17 := qFr_t hF5 hG19 (by decide) (by decide)
    show qr_W (qe L xs vb) (d + 1) qx_e145 _ (51, _, [], qw σ2 α17 κ ρ, 0, 0)
    refine qr_aload_n 52 rfl rfl rfl ?_
    refine qr_get 55 rfl rfl rfl (by decide) rfl ?_
    refine qy_v ((σ 76 7) - 1) ((congrFun (congrFun e3 76) 7).trans rfl) ?_
    refine qr_retI rfl rfl (by decide) (by decide) ?_
    exact ⟨_, _, rfl, hI18, hF20, ((σ 76 7) - 1), rfl, (by omega), (Or.inr ⟨by omega, by omega, qHq_und p0 p1 (by omega) (by omega) (by omega) (by omega) (hF20.1 17 6 (by decide)) (hF20.1 27 7 (by decide)) (hF20.1 34 7 (by decide)) (hF20.2 38 (by decide)) (hF20.2 39 (by decide)) (hF20.2 40 (by decide)) (by have hw : σ2 76 7 = ((σ 76 7) - 1) := (congrFun (congrFun e3 76) 7).trans rfl; omega) (hF20.1 76 8 (by decide)) (hF20.2 77 (by decide)) (hF20.2 78 (by decide)) (hF20.2 79 (by decide)) (hF20.2 80 (by decide)) (by have hq := hI.2.1 79 (σ 76 7 - 1 : Int).toNat (show _ < 40 by omega); exact hq) (by have hz := hx14; simp only [hv6, hv8, hv11] at hz; exact hz) (by have hz := hx16; simp only [hv6, hv8, hv11] at hz; exact hz) (by have hz := hx13; simp only [hv6, hv8, hv11] at hz; exact hz) (by have hz := hx15; simp only [hv6, hv8, hv11] at hz; exact hz)⟩)⟩
  · skip
    refine qr_bipush 9 rfl (by decide) rfl ?_
    refine qr_retI rfl rfl (by decide) (by decide) ?_
    exact ⟨_, _, rfl, hI, hF0, (-5), rfl, (by decide), (Or.inl ⟨rfl, by omega, p0⟩)⟩

set_option maxHeartbeats 4000000 in
set_option maxRecDepth 20000 in
/-- OneRoof$History.again -/
theorem sf_147_76x {L : Nat} {xs : Nat → Int} {vb : Bool} {d : Nat} {σ α : Nat → Nat → Int} {κ : Nat → Option Nat} {ρ : Nat} {h : qHS} (hI : qI σ α κ ρ) (p0 : qHq σ α h) (p1 : qCh h) : qm_T (qe L xs vb) (d + 2) 147 [.ref 76] (qw σ α κ ρ) (fun r w' => ∃ σ' α', w' = qw σ' α' κ ρ ∧ qI σ' α' κ ρ ∧ qFr [(76, 7)] [20, 33, 35, 41] σ α σ' α' ∧ ∃ v : Int, r = some (.int (qz v)) ∧ ((-2147483648) ≤ v ∧ v ≤ 2147483647) ∧ ((v = -5 ∧ ¬ σ 76 7 < σ 76 8 ∧ qHq σ' α' h) ∨ (v = σ 76 8 - σ 76 7 - 1 ∧ σ 76 7 < σ 76 8 ∧ qHq σ' α' (qred h)))) := by
  refine qr_start (d := d + 1) qv_e147 (Nat.le_of_ble_eq_true rfl) ?_
  show qr_W (qe L xs vb) (d + 1) qx_e147 _ (0, [(0, .ref 76)], [], _, 0, 0)
  have hF0 := qFr_rf [(76, 7)] [20, 33, 35, 41] σ α
  have hg := p0.2.1
  have hgd := p0.2.2.1
  have hz17_6 : 0 ≤ σ 17 6 ∧ σ 17 6 ≤ 32 := hI.1 17 6
  have hz27_7 : 0 ≤ σ 27 7 ∧ σ 27 7 ≤ 40 := hI.1 27 7
  have hz34_7 : 0 ≤ σ 34 7 ∧ σ 34 7 ≤ 60 := hI.1 34 7
  have hz76_7 : 0 ≤ σ 76 7 ∧ σ 76 7 ≤ 40 := hI.1 76 7
  have hz76_8 : 0 ≤ σ 76 8 ∧ σ 76 8 ≤ 40 := hI.1 76 8
  refine qr_aload_n 1 rfl rfl rfl ?_
  refine qr_get 4 rfl rfl rfl (by decide) rfl ?_
  refine qr_aload_n 5 rfl rfl rfl ?_
  refine qr_get 8 rfl rfl rfl (by decide) rfl ?_
  refine qr_icmp_ge 20 11 rfl rfl rfl (qrg hz76_7 (by decide) (by decide)) (qrg hz76_8 (by decide) (by decide)) (fun h1 => ?_) (fun h1 => ?_)
  · skip
    refine qr_bipush 22 rfl (by decide) rfl ?_
    refine qr_retI rfl rfl (by decide) (by decide) ?_
    exact ⟨_, _, rfl, hI, hF0, (-5), rfl, (by decide), (Or.inl ⟨rfl, by omega, p0⟩)⟩
  · skip
    refine qr_aload_n 12 rfl rfl rfl ?_
    refine qr_get 15 rfl rfl rfl (by decide) rfl ?_
    refine qr_bipush 17 rfl (by decide) rfl ?_
    refine qr_icmp_lt 23 20 rfl rfl rfl (qrg hz76_7 (by decide) (by decide)) (by decide) (fun h2 => ?_) (fun h => False.elim (by omega))
    refine qr_aload_n 24 rfl rfl rfl ?_
    refine qr_aload_n 25 rfl rfl rfl ?_
    refine qr_get 28 rfl rfl rfl (by decide) rfl ?_
    refine qr_aload_n 29 rfl rfl rfl ?_
    refine qr_get 32 rfl rfl rfl (by decide) rfl ?_
    refine qr_iaload 33 rfl rfl (by omega) (by decide) rfl ?_
    refine qr_topI (fun v3 hv3 => ?_)
    have hs4 : (-2147483648) ≤ v3 ∧ v3 ≤ 2147483647 := by rw [hv3]; exact hI.2.1 77 _ (show _ < 40 by omega)
    refine qr_aload_n 34 rfl rfl rfl ?_
    refine qr_get 37 rfl rfl rfl (by decide) rfl ?_
    refine qr_aload_n 38 rfl rfl rfl ?_
    refine qr_get 41 rfl rfl rfl (by decide) rfl ?_
    refine qr_iaload 42 rfl rfl (by omega) (by decide) rfl ?_
    refine qr_topI (fun v5 hv5 => ?_)
    have hs6 : 0 ≤ v5 ∧ v5 ≤ 1919 := by rw [hv5]; exact hI.2.1 78 _ (show _ < 40 by omega)
    have hs7 := hI.2.2.2.2.2.1 ((σ 76 7) : Int).toNat (by omega)
    refine qr_aload_n 43 rfl rfl rfl ?_
    refine qr_get 46 rfl rfl rfl (by decide) rfl ?_
    refine qr_aload_n 47 rfl rfl rfl ?_
    refine qr_get 50 rfl rfl rfl (by decide) rfl ?_
    refine qr_iaload 51 rfl rfl (by omega) (by decide) rfl ?_
    refine qr_topI (fun v8 hv8 => ?_)
    have hs9 : (-2147483648) ≤ v8 ∧ v8 ≤ 2147483647 := by rw [hv8]; exact hI.2.1 80 _ (show _ < 40 by omega)
    have hpl : (α 77 (σ 76 7 : Int).toNat = 0 ∧ 0 ≤ α 78 (σ 76 7 : Int).toNat ∧ α 78 (σ 76 7 : Int).toNat < σ 27 7) ∨ (α 77 (σ 76 7 : Int).toNat = 1 ∧ 0 ≤ α 78 (σ 76 7 : Int).toNat ∧ α 78 (σ 76 7 : Int).toNat < 32 * σ 34 7) ∨ (α 77 (σ 76 7 : Int).toNat = 2 ∧ 0 ≤ α 78 (σ 76 7 : Int).toNat ∧ α 78 (σ 76 7 : Int).toNat < σ 17 6) ∨ (α 77 (σ 76 7 : Int).toNat = 3 ∧ 0 ≤ α 78 (σ 76 7 : Int).toNat ∧ α 78 (σ 76 7 : Int).toNat < σ 34 7) := (p0.2.2.2 (σ 76 7 : Int).toNat (by omega)).1
    rw [← hv3, ← hv5] at hpl
    refine qr_callN 54 rfl rfl rfl (sf_55_76x (d := d + 0) hI (by omega) hs6 hs9 (by omega)) ?_
    rintro _ _ ⟨α14, rfl, hI15, hG16, rfl, hx10, hx11, hx12, hx13⟩
    have hF17 : qFr [(76, 7)] [20, 33, 35, 41] σ α σ α14 := qFr_t hF0 hG16 (by decide) (by decide)
    show qr_W (qe L xs vb) (d + 1) qx_e147 _ (54, _, [], qw σ α14 κ ρ, 0, 0)
    refine qr_aload_n 55 rfl rfl rfl ?_
    refine qr_dup 56 rfl rfl rfl ?_
    refine qr_get 59 rfl rfl rfl (by decide) rfl ?_
    refine qr_iconst 60 rfl rfl ?_
    refine qr_iadd 61 rfl rfl ?_
    refine qr_put 64 rfl (by decide) rfl (Nat.le_of_ble_eq_true rfl) (Nat.le_of_ble_eq_true rfl) (Or.inl rfl) (qr_fitI rfl _) rfl ?_
    refine qy_wS (qw_s σ 76 7 ((σ 76 7) + 1)) rfl (fun σ18 e19 => ?_)
    have hI20 : qI σ18 α14 κ ρ := by rw [e19]; exact qI_s hI15 76 7 rfl (show 0 ≤ ((σ 76 7) + 1) ∧ ((σ 76 7) + 1) ≤ 40 by omega)
    have hF21 : qFr [(76, 7)] [20, 33, 35, 41] σ α σ18 α14 := by rw [e19]; exact qFr_s hF17 76 7 _ (by decide)
    refine qr_aload_n 65 rfl rfl rfl ?_
    refine qr_get 68 rfl rfl rfl (by decide) rfl ?_
    refine qy_v (σ 76 8) ((congrFun (congrFun e19 76) 8).trans rfl) ?_
    refine qr_aload_n 69 rfl rfl rfl ?_
    refine qr_get 72 rfl rfl rfl (by decide) rfl ?_
    refine qy_v ((σ 76 7) + 1) ((congrFun (congrFun e19 76) 7).trans rfl) ?_
    refine qr_isub 73 rfl rfl ?_
    refine qr_retI rfl rfl (by decide) (by decide) ?_
    exact ⟨_, _, rfl, hI20, hF21, ((σ 76 8) - ((σ 76 7) + 1)), rfl, (by omega), (Or.inr ⟨by omega, by omega, qHq_red p0 p1 (by omega) (by omega) (by omega) (by omega) (hF21.1 17 6 (by decide)) (hF21.1 27 7 (by decide)) (hF21.1 34 7 (by decide)) (hF21.2 38 (by decide)) (hF21.2 39 (by decide)) (hF21.2 40 (by decide)) (by have hw : σ18 76 7 = ((σ 76 7) + 1) := (congrFun (congrFun e19 76) 7).trans rfl; omega) (hF21.1 76 8 (by decide)) (hF21.2 77 (by decide)) (hF21.2 78 (by decide)) (hF21.2 79 (by decide)) (hF21.2 80 (by decide)) (by have hq := hI.2.1 80 (σ 76 7 : Int).toNat (show _ < 40 by omega); exact hq) (by have hz := hx11; simp only [hv3, hv5, hv8] at hz; exact hz) (by have hz := hx13; simp only [hv3, hv5, hv8] at hz; exact hz) (by have hz := hx10; simp only [hv3, hv5, hv8] at hz; exact hz) (by have hz := hx12; simp only [hv3, hv5, hv8] at hz; exact hz)⟩)⟩

set_option maxHeartbeats 4000000 in
set_option maxRecDepth 20000 in
/-- OneRoof.undo -/
theorem sf_144_16x {L : Nat} {xs : Nat → Int} {vb : Bool} {d : Nat} {σ α : Nat → Nat → Int} {κ : Nat → Option Nat} {ρ : Nat} {h : qHS} (hI : qI σ α κ ρ) (p0 : qHq σ α h) (p1 : qCh h) : qm_T (qe L xs vb) (d + 3) 144 [.ref 16] (qw σ α κ ρ) (fun r w' => ∃ σ' α', w' = qw σ' α' κ ρ ∧ qI σ' α' κ ρ ∧ qFr [(76, 7)] [20, 33, 35, 41] σ α σ' α' ∧ ∃ v : Int, r = some (.int (qz v)) ∧ ((-2147483648) ≤ v ∧ v ≤ 2147483647) ∧ ((v = -5 ∧ ¬ 0 < σ 76 7 ∧ qHq σ' α' h) ∨ (v = σ 76 7 - 1 ∧ 0 < σ 76 7 ∧ qHq σ' α' (qund h)))) := by
  refine qr_start (d := d + 2) qv_e144 (Nat.le_of_ble_eq_true rfl) ?_
  show qr_W (qe L xs vb) (d + 2) qx_e144 _ (0, [(0, .ref 16)], [], _, 0, 0)
  have hF0 := qFr_rf [(76, 7)] [20, 33, 35, 41] σ α
  refine qr_aload_n 1 rfl rfl rfl ?_
  refine qr_get 4 rfl rfl rfl (by decide) rfl ?_
  refine qr_callN 7 rfl rfl rfl (sf_145_76x (d := d + 0) hI p0 p1) ?_
  rintro _ _ ⟨σ3, α4, rfl, hI5, hG6, v1, rfl, hv1, hx2⟩
  have hF7 : qFr [(76, 7)] [20, 33, 35, 41] σ α σ3 α4 := qFr_t hF0 hG6 (by decide) (by decide)
  show qr_W (qe L xs vb) (d + 2) qx_e144 _ (7, _, [.int (qz v1)], qw σ3 α4 κ ρ, 0, 0)
  refine qr_retI rfl rfl (by decide) (by decide) ?_
  exact ⟨_, _, rfl, hI5, hF7, v1, rfl, hv1, hx2⟩

set_option maxHeartbeats 4000000 in
set_option maxRecDepth 20000 in
/-- OneRoof.redo -/
theorem sf_146_16x {L : Nat} {xs : Nat → Int} {vb : Bool} {d : Nat} {σ α : Nat → Nat → Int} {κ : Nat → Option Nat} {ρ : Nat} {h : qHS} (hI : qI σ α κ ρ) (p0 : qHq σ α h) (p1 : qCh h) : qm_T (qe L xs vb) (d + 3) 146 [.ref 16] (qw σ α κ ρ) (fun r w' => ∃ σ' α', w' = qw σ' α' κ ρ ∧ qI σ' α' κ ρ ∧ qFr [(76, 7)] [20, 33, 35, 41] σ α σ' α' ∧ ∃ v : Int, r = some (.int (qz v)) ∧ ((-2147483648) ≤ v ∧ v ≤ 2147483647) ∧ ((v = -5 ∧ ¬ σ 76 7 < σ 76 8 ∧ qHq σ' α' h) ∨ (v = σ 76 8 - σ 76 7 - 1 ∧ σ 76 7 < σ 76 8 ∧ qHq σ' α' (qred h)))) := by
  refine qr_start (d := d + 2) qv_e146 (Nat.le_of_ble_eq_true rfl) ?_
  show qr_W (qe L xs vb) (d + 2) qx_e146 _ (0, [(0, .ref 16)], [], _, 0, 0)
  have hF0 := qFr_rf [(76, 7)] [20, 33, 35, 41] σ α
  refine qr_aload_n 1 rfl rfl rfl ?_
  refine qr_get 4 rfl rfl rfl (by decide) rfl ?_
  refine qr_callN 7 rfl rfl rfl (sf_147_76x (d := d + 0) hI p0 p1) ?_
  rintro _ _ ⟨σ3, α4, rfl, hI5, hG6, v1, rfl, hv1, hx2⟩
  have hF7 : qFr [(76, 7)] [20, 33, 35, 41] σ α σ3 α4 := qFr_t hF0 hG6 (by decide) (by decide)
  show qr_W (qe L xs vb) (d + 2) qx_e146 _ (7, _, [.int (qz v1)], qw σ3 α4 κ ρ, 0, 0)
  refine qr_retI rfl rfl (by decide) (by decide) ?_
  exact ⟨_, _, rfl, hI5, hF7, v1, rfl, hv1, hx2⟩

set_option maxHeartbeats 4000000 in
set_option maxRecDepth 20000 in
/-- OneRoofModel.undo -/
theorem sf_172_86x {L : Nat} {xs : Nat → Int} {vb : Bool} {d : Nat} {σ α : Nat → Nat → Int} {κ : Nat → Option Nat} {ρ : Nat}  (hI : qI σ α κ ρ)  : qm_T (qe L xs vb) (d + 1) 172 [.ref 86] (qw σ α κ ρ) (fun r w' => ∃ σ' α', w' = qw σ' α' κ ρ ∧ qI σ' α' κ ρ ∧ qFr [(86, 5)] [87] σ α σ' α' ∧ ∃ v : Int, r = some (.int (qz v)) ∧ ((-2147483648) ≤ v ∧ v ≤ 2147483647) ∧ ((v = -5 ∧ σ 86 5 = 0 ∧ α' 87 = α 87 ∧ σ' 86 5 = σ 86 5) ∨ (v = σ 86 5 - 1 ∧ 0 < σ 86 5 ∧ α' 87 = qzu (α 87) (α 88 (σ 86 5 - 1 : Int).toNat).toNat (α 89 (σ 86 5 - 1 : Int).toNat) ∧ σ' 86 5 = σ 86 5 - 1))) := by
  refine qr_start (d := d + 0) qv_e172 (Nat.le_of_ble_eq_true rfl) ?_
  show qr_W (qe L xs vb) (d + 0) qx_e172 _ (0, [(0, .ref 86)], [], _, 0, 0)
  have hF0 := qFr_rf [(86, 5)] [87] σ α
  have hz86_5 : 0 ≤ σ 86 5 ∧ σ 86 5 ≤ 40 := hI.1 86 5
  have hz86_4 : 0 ≤ σ 86 4 ∧ σ 86 4 ≤ 40 := hI.1 86 4
  refine qr_aload_n 1 rfl rfl rfl ?_
  refine qr_get 4 rfl rfl rfl (by decide) rfl ?_
  refine qr_if_ne 10 7 rfl rfl rfl (qrg hz86_5 (by decide) (by decide)) (fun h1 => ?_) (fun h1 => ?_)
  · skip
    refine qr_aload_n 11 rfl rfl rfl ?_
    refine qr_dup 12 rfl rfl rfl ?_
    refine qr_get 15 rfl rfl rfl (by decide) rfl ?_
    refine qr_iconst 16 rfl rfl ?_
    refine qr_isub 17 rfl rfl ?_
    refine qr_put 20 rfl (by decide) rfl (Nat.le_of_ble_eq_true rfl) (Nat.le_of_ble_eq_true rfl) (Or.inl rfl) (qr_fitI rfl _) rfl ?_
    refine qy_wS (qw_s σ 86 5 ((σ 86 5) - 1)) rfl (fun σ2 e3 => ?_)
    have hI4 : qI σ2 α κ ρ := by rw [e3]; exact qI_s5 hI (by omega) (by have hw : σ 86 4 = (σ 86 4) := rfl; have hw2 := hI.2.2.2.2.2.2.2.1; have hw3 : σ 86 5 = (σ 86 5) := rfl; omega)
    have hF5 : qFr [(86, 5)] [87] σ α σ2 α := by rw [e3]; exact qFr_s hF0 86 5 _ (by decide)
    refine qr_aload_n 21 rfl rfl rfl ?_
    refine qr_get 24 rfl rfl rfl (by decide) rfl ?_
    refine qr_aload_n 25 rfl rfl rfl ?_
    refine qr_get 28 rfl rfl rfl (by decide) rfl ?_
    refine qr_aload_n 29 rfl rfl rfl ?_
    refine qr_get 32 rfl rfl rfl (by decide) rfl ?_
    refine qy_v ((σ 86 5) - 1) ((congrFun (congrFun e3 86) 5).trans rfl) ?_
    refine qr_iaload 33 rfl rfl (by omega) (by decide) rfl ?_
    refine qr_topI (fun v6 hv6 => ?_)
    have hs7 : 0 ≤ v6 ∧ v6 ≤ 251 := by rw [hv6]; exact hI4.2.1 88 _ (show _ < 40 by omega)
    have hrv6 : v6 = (α 88) (((σ 86 5) - 1) : Int).toNat := hv6
    refine qr_aload_n 34 rfl rfl rfl ?_
    refine qr_get 37 rfl rfl rfl (by decide) rfl ?_
    refine qr_aload_n 38 rfl rfl rfl ?_
    refine qr_get 41 rfl rfl rfl (by decide) rfl ?_
    refine qy_v ((σ 86 5) - 1) ((congrFun (congrFun e3 86) 5).trans rfl) ?_
    refine qr_iaload 42 rfl rfl (by omega) (by decide) rfl ?_
    refine qr_topI (fun v8 hv8 => ?_)
    have hs9 : (-2147483648) ≤ v8 ∧ v8 ≤ 2147483647 := by rw [hv8]; exact hI4.2.1 89 _ (show _ < 40 by omega)
    have hrv8 : v8 = (α 89) (((σ 86 5) - 1) : Int).toNat := hv8
    refine qr_iastore 43 rfl (by decide) rfl (qrgi hs7 (by decide) (by decide)) (by decide) rfl ?_
    refine qy_wA (qw_r α 87 (qzu (α 87) (v6 : Int).toNat v8)) rfl (fun α10 e11 => ?_)
    have hI12 : qI σ2 α10 κ ρ := by rw [e11]; exact qI_r hI4 87 _ rfl (show (-2147483648) ≤ v8 ∧ v8 ≤ 2147483647 by omega)
    have hF13 : qFr [(86, 5)] [87] σ α σ2 α10 := by rw [e11]; exact qFr_r hF5 87 _ (by decide)
    refine qr_aload_n 44 rfl rfl rfl ?_
    refine qr_get 47 rfl rfl rfl (by decide) rfl ?_
    refine qy_v ((σ 86 5) - 1) ((congrFun (congrFun e3 86) 5).trans rfl) ?_
    refine qr_retI rfl rfl (by decide) (by decide) ?_
    exact ⟨_, _, rfl, hI12, hF13, ((σ 86 5) - 1), rfl, (by omega), (Or.inr ⟨by omega, by omega, (((congrFun e11 87).trans (qw_r_eq.trans (congrArg (fun f => qzu f (v6 : Int).toNat v8) rfl)))).trans (by rw [hv6, hv8]), by have hw : σ2 86 5 = ((σ 86 5) - 1) := (congrFun (congrFun e3 86) 5).trans rfl; omega⟩)⟩
  · skip
    refine qr_bipush 9 rfl (by decide) rfl ?_
    refine qr_retI rfl rfl (by decide) (by decide) ?_
    exact ⟨_, _, rfl, hI, hF0, (-5), rfl, (by decide), (Or.inl ⟨rfl, by omega, rfl, rfl⟩)⟩

set_option maxHeartbeats 4000000 in
set_option maxRecDepth 20000 in
/-- OneRoofModel.redo -/
theorem sf_173_86x {L : Nat} {xs : Nat → Int} {vb : Bool} {d : Nat} {σ α : Nat → Nat → Int} {κ : Nat → Option Nat} {ρ : Nat}  (hI : qI σ α κ ρ)  : qm_T (qe L xs vb) (d + 1) 173 [.ref 86] (qw σ α κ ρ) (fun r w' => ∃ σ' α', w' = qw σ' α' κ ρ ∧ qI σ' α' κ ρ ∧ qFr [(86, 5)] [87] σ α σ' α' ∧ ∃ v : Int, r = some (.int (qz v)) ∧ ((-2147483648) ≤ v ∧ v ≤ 2147483647) ∧ ((v = -5 ∧ σ 86 5 = σ 86 4 ∧ α' 87 = α 87 ∧ σ' 86 5 = σ 86 5) ∨ (v = σ 86 4 - σ 86 5 - 1 ∧ ¬ σ 86 5 = σ 86 4 ∧ α' 87 = qzu (α 87) (α 88 (σ 86 5 : Int).toNat).toNat (α 90 (σ 86 5 : Int).toNat) ∧ σ' 86 5 = σ 86 5 + 1))) := by
  refine qr_start (d := d + 0) qv_e173 (Nat.le_of_ble_eq_true rfl) ?_
  show qr_W (qe L xs vb) (d + 0) qx_e173 _ (0, [(0, .ref 86)], [], _, 0, 0)
  have hF0 := qFr_rf [(86, 5)] [87] σ α
  have hz86_5 : 0 ≤ σ 86 5 ∧ σ 86 5 ≤ 40 := hI.1 86 5
  have hz86_4 : 0 ≤ σ 86 4 ∧ σ 86 4 ≤ 40 := hI.1 86 4
  refine qr_aload_n 1 rfl rfl rfl ?_
  refine qr_get 4 rfl rfl rfl (by decide) rfl ?_
  have hx54 := hI.2.2.2.2.2.2.2.1
  refine qr_aload_n 5 rfl rfl rfl ?_
  refine qr_get 8 rfl rfl rfl (by decide) rfl ?_
  refine qr_icmp_ne 14 11 rfl rfl rfl (qrg hz86_5 (by decide) (by decide)) (qrg hz86_4 (by decide) (by decide)) (fun h1 => ?_) (fun h1 => ?_)
  · skip
    refine qr_aload_n 15 rfl rfl rfl ?_
    refine qr_get 18 rfl rfl rfl (by decide) rfl ?_
    refine qr_aload_n 19 rfl rfl rfl ?_
    refine qr_get 22 rfl rfl rfl (by decide) rfl ?_
    refine qr_aload_n 23 rfl rfl rfl ?_
    refine qr_get 26 rfl rfl rfl (by decide) rfl ?_
    refine qr_iaload 27 rfl rfl (by omega) (by decide) rfl ?_
    refine qr_topI (fun v2 hv2 => ?_)
    have hs3 : 0 ≤ v2 ∧ v2 ≤ 251 := by rw [hv2]; exact hI.2.1 88 _ (show _ < 40 by omega)
    have hrv2 : v2 = (α 88) ((σ 86 5) : Int).toNat := hv2
    refine qr_aload_n 28 rfl rfl rfl ?_
    refine qr_get 31 rfl rfl rfl (by decide) rfl ?_
    refine qr_aload_n 32 rfl rfl rfl ?_
    refine qr_get 35 rfl rfl rfl (by decide) rfl ?_
    refine qr_iaload 36 rfl rfl (by omega) (by decide) rfl ?_
    refine qr_topI (fun v4 hv4 => ?_)
    have hs5 : (-2147483648) ≤ v4 ∧ v4 ≤ 2147483647 := by rw [hv4]; exact hI.2.1 90 _ (show _ < 40 by omega)
    have hrv4 : v4 = (α 90) ((σ 86 5) : Int).toNat := hv4
    refine qr_iastore 37 rfl (by decide) rfl (qrgi hs3 (by decide) (by decide)) (by decide) rfl ?_
    refine qy_wA (qw_r α 87 (qzu (α 87) (v2 : Int).toNat v4)) rfl (fun α6 e7 => ?_)
    have hI8 : qI σ α6 κ ρ := by rw [e7]; exact qI_r hI 87 _ rfl (show (-2147483648) ≤ v4 ∧ v4 ≤ 2147483647 by omega)
    have hF9 : qFr [(86, 5)] [87] σ α σ α6 := by rw [e7]; exact qFr_r hF0 87 _ (by decide)
    refine qr_aload_n 38 rfl rfl rfl ?_
    refine qr_dup 39 rfl rfl rfl ?_
    refine qr_get 42 rfl rfl rfl (by decide) rfl ?_
    refine qr_iconst 43 rfl rfl ?_
    refine qr_iadd 44 rfl rfl ?_
    refine qr_put 47 rfl (by decide) rfl (Nat.le_of_ble_eq_true rfl) (Nat.le_of_ble_eq_true rfl) (Or.inl rfl) (qr_fitI rfl _) rfl ?_
    refine qy_wS (qw_s σ 86 5 ((σ 86 5) + 1)) rfl (fun σ10 e11 => ?_)
    have hI12 : qI σ10 α6 κ ρ := by rw [e11]; exact qI_s5 hI8 (by omega) (by have hw : σ 86 4 = (σ 86 4) := rfl; have hw2 := hI8.2.2.2.2.2.2.2.1; have hw3 : σ 86 5 = (σ 86 5) := rfl; omega)
    have hF13 : qFr [(86, 5)] [87] σ α σ10 α6 := by rw [e11]; exact qFr_s hF9 86 5 _ (by decide)
    refine qr_aload_n 48 rfl rfl rfl ?_
    refine qr_get 51 rfl rfl rfl (by decide) rfl ?_
    refine qy_v (σ 86 4) ((congrFun (congrFun e11 86) 4).trans rfl) ?_
    refine qr_aload_n 52 rfl rfl rfl ?_
    refine qr_get 55 rfl rfl rfl (by decide) rfl ?_
    refine qy_v ((σ 86 5) + 1) ((congrFun (congrFun e11 86) 5).trans rfl) ?_
    refine qr_isub 56 rfl rfl ?_
    refine qr_retI rfl rfl (by decide) (by decide) ?_
    exact ⟨_, _, rfl, hI12, hF13, ((σ 86 4) - ((σ 86 5) + 1)), rfl, (by omega), (Or.inr ⟨by omega, by omega, (((congrFun e7 87).trans (qw_r_eq.trans (congrArg (fun f => qzu f (v2 : Int).toNat v4) rfl)))).trans (by rw [hv2, hv4]), by have hw : σ10 86 5 = ((σ 86 5) + 1) := (congrFun (congrFun e11 86) 5).trans rfl; omega⟩)⟩
  · skip
    refine qr_bipush 13 rfl (by decide) rfl ?_
    refine qr_retI rfl rfl (by decide) (by decide) ?_
    exact ⟨_, _, rfl, hI, hF0, (-5), rfl, (by decide), (Or.inl ⟨rfl, by omega, rfl, rfl⟩)⟩

set_option maxHeartbeats 4000000 in
set_option maxRecDepth 20000 in
/-- OneRoof.sword -/
theorem sf_51_16x {L : Nat} {xs : Nat → Int} {vb : Bool} {d : Nat} {σ α : Nat → Nat → Int} {κ : Nat → Option Nat} {ρ : Nat} {x1 : Int} {x2 : Int} {h : qHS} (hI : qI σ α κ ρ) (r1 : (-2147483648) ≤ x1 ∧ x1 ≤ 2147483647) (r2 : (-2147483648) ≤ x2 ∧ x2 ≤ 2147483647) (p0 : qHq σ α h) : qm_T (qe L xs vb) (d + 4) 51 [.ref 16, .int (qz x1), .int (qz x2)] (qw σ α κ ρ) (fun r w' => ∃ σ' α', w' = qw σ' α' κ ρ ∧ qI σ' α' κ ρ ∧ qFr [(76, 7), (76, 8)] [20, 33, 35, 41, 77, 78, 79, 80] σ α σ' α' ∧ ∃ v : Int, r = some (.int (qz v)) ∧ ((-2147483648) ≤ v ∧ v ≤ 2147483647) ∧ ((v = -1 ∧ ¬ (0 ≤ x1 ∧ x1 < σ 17 6 ∧ 0 ≤ x2 ∧ x2 ≤ 1) ∧ qHq σ' α' h) ∨ ((0 ≤ x1 ∧ x1 < σ 17 6 ∧ 0 ≤ x2 ∧ x2 ≤ 1) ∧ v = qtd (α 33) (α 41) (α 20) (α 35) 2 x1 ∧ qHq σ' α' (qbec h (qat 2 x1) (qwd h.1 2 x1 x2))))) := by
  refine qr_start (d := d + 3) qv_e51 (Nat.le_of_ble_eq_true rfl) ?_
  show qr_W (qe L xs vb) (d + 3) qx_e51 _ (0, [(0, .ref 16), (1, .int (qz x1)), (2, .int (qz x2))], [], _, 0, 0)
  have hF0 := qFr_rf [(76, 7), (76, 8)] [20, 33, 35, 41, 77, 78, 79, 80] σ α
  have hz17_6 : 0 ≤ σ 17 6 ∧ σ 17 6 ≤ 32 := hI.1 17 6
  have hz27_7 : 0 ≤ σ 27 7 ∧ σ 27 7 ≤ 40 := hI.1 27 7
  have hz34_7 : 0 ≤ σ 34 7 ∧ σ 34 7 ≤ 60 := hI.1 34 7
  refine qr_aload_n 1 rfl rfl rfl ?_
  refine qr_get 4 rfl rfl rfl (by decide) rfl ?_
  refine qr_iload_n 5 rfl rfl rfl ?_
  refine qr_callN 8 rfl rfl rfl (sf_40_17 (d := d + 2) hI r1) ?_
  have hs3 : 0 ≤ σ 17 6 ∧ σ 17 6 ≤ 32 := hI.1 17 6
  rintro _ _ ⟨rfl, v1, rfl, hv1, hp2⟩
  show qr_W (qe L xs vb) (d + 3) qx_e51 _ (8, _, [.int (qz v1)], qw σ α κ ρ, 0, 0)
  refine qr_if_eq 18 11 rfl rfl rfl (qrg hv1 (by decide) (by decide)) (fun h4 => ?_) (fun h4 => ?_)
  · skip
    refine qr_iconst 19 rfl rfl ?_
    refine qr_retI rfl rfl (by decide) (by decide) ?_
    exact ⟨_, _, rfl, hI, hF0, (-1), rfl, (by decide), (Or.inl ⟨rfl, by omega, p0⟩)⟩
  · skip
    refine qr_iload_n 12 rfl rfl rfl ?_
    refine qr_callN 15 rfl rfl rfl (sf_41 (d := d + 2) hI r2) ?_
    rintro _ _ ⟨rfl, v5, rfl, hv5, hp6⟩
    show qr_W (qe L xs vb) (d + 3) qx_e51 _ (15, _, [.int (qz v5)], qw σ α κ ρ, 0, 0)
    refine qr_if_ne 20 18 rfl rfl rfl (qrg hv5 (by decide) (by decide)) (fun h7 => ?_) (fun h7 => ?_)
    · skip
      refine qr_aload_n 21 rfl rfl rfl ?_
      refine qr_get 24 rfl rfl rfl (by decide) rfl ?_
      refine qr_iconst 25 rfl rfl ?_
      refine qr_iload_n 26 rfl rfl rfl ?_
      refine qr_iload_n 27 rfl rfl rfl ?_
      have hs8 : 0 ≤ σ 17 6 ∧ σ 17 6 ≤ 32 := hI.1 17 6
      have hs9 : 0 ≤ σ 27 7 ∧ σ 27 7 ≤ 40 := hI.1 27 7
      have hs10 : 0 ≤ σ 34 7 ∧ σ 34 7 ≤ 60 := hI.1 34 7
      refine qr_callN 30 rfl rfl rfl (sf_52_76x (d := d + 0) hI (by decide) (by omega) r2 p0 (Or.inr (Or.inr (Or.inl ⟨rfl, by omega, by omega⟩))) (fun z => absurd z (by decide)) (fun z => absurd z (by decide))) ?_
      rintro _ _ ⟨σ14, α15, rfl, hI16, hG17, v11, rfl, hv11, hp12, hx13⟩
      have hF18 : qFr [(76, 7), (76, 8)] [20, 33, 35, 41, 77, 78, 79, 80] σ α σ14 α15 := qFr_t hF0 hG17 (by decide) (by decide)
      show qr_W (qe L xs vb) (d + 3) qx_e51 _ (30, _, [.int (qz v11)], qw σ14 α15 κ ρ, 0, 0)
      refine qr_retI rfl rfl (by decide) (by decide) ?_
      exact ⟨_, _, rfl, hI16, hF18, v11, rfl, hv11, (Or.inr ⟨by omega, hp12, hx13⟩)⟩
    · skip
      refine qr_iconst 19 rfl rfl ?_
      refine qr_retI rfl rfl (by decide) (by decide) ?_
      exact ⟨_, _, rfl, hI, hF0, (-1), rfl, (by decide), (Or.inl ⟨rfl, by omega, p0⟩)⟩

set_option maxHeartbeats 4000000 in
set_option maxRecDepth 20000 in
/-- OneRoof.pay -/
theorem sf_64_16x {L : Nat} {xs : Nat → Int} {vb : Bool} {d : Nat} {σ α : Nat → Nat → Int} {κ : Nat → Option Nat} {ρ : Nat} {x1 : Int} {x2 : Int} {h : qHS} (hI : qI σ α κ ρ) (r1 : (-2147483648) ≤ x1 ∧ x1 ≤ 2147483647) (r2 : (-2147483648) ≤ x2 ∧ x2 ≤ 2147483647) (p0 : qHq σ α h) : qm_T (qe L xs vb) (d + 4) 64 [.ref 16, .int (qz x1), .int (qz x2)] (qw σ α κ ρ) (fun r w' => ∃ σ' α', w' = qw σ' α' κ ρ ∧ qI σ' α' κ ρ ∧ qFr [(76, 7), (76, 8)] [20, 33, 35, 41, 77, 78, 79, 80] σ α σ' α' ∧ ∃ v : Int, r = some (.int (qz v)) ∧ ((-2147483648) ≤ v ∧ v ≤ 2147483647) ∧ ((v = -1 ∧ ¬ (0 ≤ x1 ∧ x1 < σ 27 7 ∧ 0 ≤ x2 ∧ x2 ≤ 2400) ∧ qHq σ' α' h) ∨ ((0 ≤ x1 ∧ x1 < σ 27 7 ∧ 0 ≤ x2 ∧ x2 ≤ 2400) ∧ v = qtd (α 33) (α 41) (α 20) (α 35) 0 x1 ∧ qHq σ' α' (qbec h (qat 0 x1) (qwd h.1 0 x1 x2))))) := by
  refine qr_start (d := d + 3) qv_e64 (Nat.le_of_ble_eq_true rfl) ?_
  show qr_W (qe L xs vb) (d + 3) qx_e64 _ (0, [(0, .ref 16), (1, .int (qz x1)), (2, .int (qz x2))], [], _, 0, 0)
  have hF0 := qFr_rf [(76, 7), (76, 8)] [20, 33, 35, 41, 77, 78, 79, 80] σ α
  have hz17_6 : 0 ≤ σ 17 6 ∧ σ 17 6 ≤ 32 := hI.1 17 6
  have hz27_7 : 0 ≤ σ 27 7 ∧ σ 27 7 ≤ 40 := hI.1 27 7
  have hz34_7 : 0 ≤ σ 34 7 ∧ σ 34 7 ≤ 60 := hI.1 34 7
  refine qr_iload_n 1 rfl rfl rfl ?_
  refine qr_if_lt 26 4 rfl rfl rfl r1 (fun h1 => ?_) (fun h1 => ?_)
  · skip
    refine qr_iconst 27 rfl rfl ?_
    refine qr_retI rfl rfl (by decide) (by decide) ?_
    exact ⟨_, _, rfl, hI, hF0, (-1), rfl, (by decide), (Or.inl ⟨rfl, by omega, p0⟩)⟩
  · skip
    refine qr_iload_n 5 rfl rfl rfl ?_
    refine qr_aload_n 6 rfl rfl rfl ?_
    refine qr_get 9 rfl rfl rfl (by decide) rfl ?_
    refine qr_get 12 rfl rfl rfl (by decide) rfl ?_
    refine qr_icmp_ge 26 15 rfl rfl rfl r1 (qrg hz27_7 (by decide) (by decide)) (fun h2 => ?_) (fun h2 => ?_)
    · skip
      refine qr_iconst 27 rfl rfl ?_
      refine qr_retI rfl rfl (by decide) (by decide) ?_
      exact ⟨_, _, rfl, hI, hF0, (-1), rfl, (by decide), (Or.inl ⟨rfl, by omega, p0⟩)⟩
    · skip
      refine qr_iload_n 16 rfl rfl rfl ?_
      refine qr_if_lt 26 19 rfl rfl rfl r2 (fun h3 => ?_) (fun h3 => ?_)
      · skip
        refine qr_iconst 27 rfl rfl ?_
        refine qr_retI rfl rfl (by decide) (by decide) ?_
        exact ⟨_, _, rfl, hI, hF0, (-1), rfl, (by decide), (Or.inl ⟨rfl, by omega, p0⟩)⟩
      · skip
        refine qr_iload_n 20 rfl rfl rfl ?_
        refine qr_sipush 23 rfl (by decide) rfl ?_
        refine qr_icmp_le 28 26 rfl rfl rfl r2 (by decide) (fun h4 => ?_) (fun h4 => ?_)
        · skip
          refine qr_aload_n 29 rfl rfl rfl ?_
          refine qr_get 32 rfl rfl rfl (by decide) rfl ?_
          refine qr_iconst 33 rfl rfl ?_
          refine qr_iload_n 34 rfl rfl rfl ?_
          refine qr_iload_n 35 rfl rfl rfl ?_
          have hs5 : 0 ≤ σ 17 6 ∧ σ 17 6 ≤ 32 := hI.1 17 6
          have hs6 : 0 ≤ σ 27 7 ∧ σ 27 7 ≤ 40 := hI.1 27 7
          have hs7 : 0 ≤ σ 34 7 ∧ σ 34 7 ≤ 60 := hI.1 34 7
          refine qr_callN 38 rfl rfl rfl (sf_52_76x (d := d + 0) hI (by decide) (by omega) r2 p0 (Or.inl ⟨rfl, by omega, by omega⟩) (fun z => absurd z (by decide)) (fun z => absurd z (by decide))) ?_
          rintro _ _ ⟨σ11, α12, rfl, hI13, hG14, v8, rfl, hv8, hp9, hx10⟩
          have hF15 : qFr [(76, 7), (76, 8)] [20, 33, 35, 41, 77, 78, 79, 80] σ α σ11 α12 := qFr_t hF0 hG14 (by decide) (by decide)
          show qr_W (qe L xs vb) (d + 3) qx_e64 _ (38, _, [.int (qz v8)], qw σ11 α12 κ ρ, 0, 0)
          refine qr_retI rfl rfl (by decide) (by decide) ?_
          exact ⟨_, _, rfl, hI13, hF15, v8, rfl, hv8, (Or.inr ⟨by omega, hp9, hx10⟩)⟩
        · skip
          refine qr_iconst 27 rfl rfl ?_
          refine qr_retI rfl rfl (by decide) (by decide) ?_
          exact ⟨_, _, rfl, hI, hF0, (-1), rfl, (by decide), (Or.inl ⟨rfl, by omega, p0⟩)⟩

set_option maxHeartbeats 4000000 in
set_option maxRecDepth 20000 in
/-- OneRoof.cover -/
theorem sf_75_16x {L : Nat} {xs : Nat → Int} {vb : Bool} {d : Nat} {σ α : Nat → Nat → Int} {κ : Nat → Option Nat} {ρ : Nat} {x1 : Int} {x2 : Int} {x3 : Int} {h : qHS} (hI : qI σ α κ ρ) (r1 : (-2147483648) ≤ x1 ∧ x1 ≤ 2147483647) (r2 : (-2147483648) ≤ x2 ∧ x2 ≤ 2147483647) (r3 : (-2147483648) ≤ x3 ∧ x3 ≤ 2147483647) (p0 : qHq σ α h) : qm_T (qe L xs vb) (d + 4) 75 [.ref 16, .int (qz x1), .int (qz x2), .int (qz x3)] (qw σ α κ ρ) (fun r w' => ∃ σ' α', w' = qw σ' α' κ ρ ∧ qI σ' α' κ ρ ∧ qFr [(76, 7), (76, 8)] [20, 33, 35, 41, 77, 78, 79, 80] σ α σ' α' ∧ ∃ v : Int, r = some (.int (qz v)) ∧ ((-2147483648) ≤ v ∧ v ≤ 2147483647) ∧ ((v = -1 ∧ ¬ (0 ≤ x1 ∧ x1 < σ 34 7 ∧ 0 ≤ x2 ∧ x2 < σ 17 6 ∧ 0 ≤ x3 ∧ x3 ≤ 1) ∧ qHq σ' α' h) ∨ ((0 ≤ x1 ∧ x1 < σ 34 7 ∧ 0 ≤ x2 ∧ x2 < σ 17 6 ∧ 0 ≤ x3 ∧ x3 ≤ 1) ∧ v = qtd (α 33) (α 41) (α 20) (α 35) 1 (x1 * 32 + x2) ∧ qHq σ' α' (qbec h (qat 1 (x1 * 32 + x2)) (qwd h.1 1 (x1 * 32 + x2) x3))))) := by
  refine qr_start (d := d + 3) qv_e75 (Nat.le_of_ble_eq_true rfl) ?_
  show qr_W (qe L xs vb) (d + 3) qx_e75 _ (0, [(0, .ref 16), (1, .int (qz x1)), (2, .int (qz x2)), (3, .int (qz x3))], [], _, 0, 0)
  have hF0 := qFr_rf [(76, 7), (76, 8)] [20, 33, 35, 41, 77, 78, 79, 80] σ α
  have hz17_6 : 0 ≤ σ 17 6 ∧ σ 17 6 ≤ 32 := hI.1 17 6
  have hz27_7 : 0 ≤ σ 27 7 ∧ σ 27 7 ≤ 40 := hI.1 27 7
  have hz34_7 : 0 ≤ σ 34 7 ∧ σ 34 7 ≤ 60 := hI.1 34 7
  refine qr_aload_n 1 rfl rfl rfl ?_
  refine qr_get 4 rfl rfl rfl (by decide) rfl ?_
  refine qr_iload_n 5 rfl rfl rfl ?_
  refine qr_callN 8 rfl rfl rfl (sf_73_34 (d := d + 2) hI r1) ?_
  have hs3 : 0 ≤ σ 34 7 ∧ σ 34 7 ≤ 60 := hI.1 34 7
  rintro _ _ ⟨rfl, v1, rfl, hv1, hp2⟩
  show qr_W (qe L xs vb) (d + 3) qx_e75 _ (8, _, [.int (qz v1)], qw σ α κ ρ, 0, 0)
  refine qr_if_eq 29 11 rfl rfl rfl (qrg hv1 (by decide) (by decide)) (fun h4 => ?_) (fun h4 => ?_)
  · skip
    refine qr_iconst 30 rfl rfl ?_
    refine qr_retI rfl rfl (by decide) (by decide) ?_
    exact ⟨_, _, rfl, hI, hF0, (-1), rfl, (by decide), (Or.inl ⟨rfl, by omega, p0⟩)⟩
  · skip
    refine qr_aload_n 12 rfl rfl rfl ?_
    refine qr_get 15 rfl rfl rfl (by decide) rfl ?_
    refine qr_iload_n 16 rfl rfl rfl ?_
    refine qr_callN 19 rfl rfl rfl (sf_40_17 (d := d + 2) hI r2) ?_
    have hs7 : 0 ≤ σ 17 6 ∧ σ 17 6 ≤ 32 := hI.1 17 6
    rintro _ _ ⟨rfl, v5, rfl, hv5, hp6⟩
    show qr_W (qe L xs vb) (d + 3) qx_e75 _ (19, _, [.int (qz v5)], qw σ α κ ρ, 0, 0)
    refine qr_if_eq 29 22 rfl rfl rfl (qrg hv5 (by decide) (by decide)) (fun h8 => ?_) (fun h8 => ?_)
    · skip
      refine qr_iconst 30 rfl rfl ?_
      refine qr_retI rfl rfl (by decide) (by decide) ?_
      exact ⟨_, _, rfl, hI, hF0, (-1), rfl, (by decide), (Or.inl ⟨rfl, by omega, p0⟩)⟩
    · skip
      refine qr_iload_n 23 rfl rfl rfl ?_
      refine qr_callN 26 rfl rfl rfl (sf_41 (d := d + 2) hI r3) ?_
      rintro _ _ ⟨rfl, v9, rfl, hv9, hp10⟩
      show qr_W (qe L xs vb) (d + 3) qx_e75 _ (26, _, [.int (qz v9)], qw σ α κ ρ, 0, 0)
      refine qr_if_ne 31 29 rfl rfl rfl (qrg hv9 (by decide) (by decide)) (fun h11 => ?_) (fun h11 => ?_)
      · skip
        refine qr_aload_n 32 rfl rfl rfl ?_
        refine qr_get 35 rfl rfl rfl (by decide) rfl ?_
        refine qr_iconst 36 rfl rfl ?_
        refine qr_iload_n 37 rfl rfl rfl ?_
        refine qr_bipush 39 rfl (by decide) rfl ?_
        refine qr_imul 40 rfl rfl ?_
        refine qr_iload_n 41 rfl rfl rfl ?_
        refine qr_iadd 42 rfl rfl ?_
        refine qr_iload_n 43 rfl rfl rfl ?_
        have hs12 : 0 ≤ σ 17 6 ∧ σ 17 6 ≤ 32 := hI.1 17 6
        have hs13 : 0 ≤ σ 27 7 ∧ σ 27 7 ≤ 40 := hI.1 27 7
        have hs14 : 0 ≤ σ 34 7 ∧ σ 34 7 ≤ 60 := hI.1 34 7
        refine qr_callN 46 rfl rfl rfl (sf_52_76x (d := d + 0) hI (by decide) (by omega) r3 p0 (Or.inr (Or.inl ⟨rfl, by omega, by omega⟩)) (fun _ => by omega) (fun z => absurd z (by decide))) ?_
        rintro _ _ ⟨σ18, α19, rfl, hI20, hG21, v15, rfl, hv15, hp16, hx17⟩
        have hF22 : qFr [(76, 7), (76, 8)] [20, 33, 35, 41, 77, 78, 79, 80] σ α σ18 α19 := qFr_t hF0 hG21 (by decide) (by decide)
        show qr_W (qe L xs vb) (d + 3) qx_e75 _ (46, _, [.int (qz v15)], qw σ18 α19 κ ρ, 0, 0)
        refine qr_retI rfl rfl (by decide) (by decide) ?_
        exact ⟨_, _, rfl, hI20, hF22, v15, rfl, hv15, (Or.inr ⟨by omega, hp16, hx17⟩)⟩
      · skip
        refine qr_iconst 30 rfl rfl ?_
        refine qr_retI rfl rfl (by decide) (by decide) ?_
        exact ⟨_, _, rfl, hI, hF0, (-1), rfl, (by decide), (Or.inl ⟨rfl, by omega, p0⟩)⟩

set_option maxHeartbeats 4000000 in
set_option maxRecDepth 20000 in
/-- OneRoofModel.sword -/
theorem sf_182_86x {L : Nat} {xs : Nat → Int} {vb : Bool} {d : Nat} {σ α : Nat → Nat → Int} {κ : Nat → Option Nat} {ρ : Nat} {x1 : Int} {x2 : Int} (hI : qI σ α κ ρ) (r1 : (-2147483648) ≤ x1 ∧ x1 ≤ 2147483647) (r2 : (-2147483648) ≤ x2 ∧ x2 ≤ 2147483647) : qm_T (qe L xs vb) (d + 3) 182 [.ref 86, .int (qz x1), .int (qz x2)] (qw σ α κ ρ) (fun r w' => ∃ σ' α', w' = qw σ' α' κ ρ ∧ qI σ' α' κ ρ ∧ qFr [(86, 4), (86, 5)] [87, 88, 89, 90] σ α σ' α' ∧ ∃ v : Int, r = some (.int (qz v)) ∧ ((-2147483648) ≤ v ∧ v ≤ 2147483647) ∧ ((v = -1 ∧ ¬ (0 ≤ x1 ∧ x1 < σ 86 6 ∧ 0 ≤ x2 ∧ x2 ≤ 1) ∧ (α' 87 = α 87 ∧ α' 88 = α 88 ∧ α' 89 = α 89 ∧ α' 90 = α 90 ∧ σ' 86 5 = σ 86 5 ∧ σ' 86 4 = σ 86 4)) ∨ ((0 ≤ x1 ∧ x1 < σ 86 6 ∧ 0 ≤ x2 ∧ x2 ≤ 1) ∧ v = α 87 (0 + x1 : Int).toNat ∧ (α' 87 = (qbec (α 87, α 88, α 89, α 90, σ 86 5, σ 86 4) (0 + x1) x2).1 ∧ α' 88 = (qbec (α 87, α 88, α 89, α 90, σ 86 5, σ 86 4) (0 + x1) x2).2.1 ∧ α' 89 = (qbec (α 87, α 88, α 89, α 90, σ 86 5, σ 86 4) (0 + x1) x2).2.2.1 ∧ α' 90 = (qbec (α 87, α 88, α 89, α 90, σ 86 5, σ 86 4) (0 + x1) x2).2.2.2.1 ∧ σ' 86 5 = (qbec (α 87, α 88, α 89, α 90, σ 86 5, σ 86 4) (0 + x1) x2).2.2.2.2.1 ∧ σ' 86 4 = (qbec (α 87, α 88, α 89, α 90, σ 86 5, σ 86 4) (0 + x1) x2).2.2.2.2.2)))) := by
  refine qr_start (d := d + 2) qv_e182 (Nat.le_of_ble_eq_true rfl) ?_
  show qr_W (qe L xs vb) (d + 2) qx_e182 _ (0, [(0, .ref 86), (1, .int (qz x1)), (2, .int (qz x2))], [], _, 0, 0)
  have hF0 := qFr_rf [(86, 4), (86, 5)] [87, 88, 89, 90] σ α
  have hz86_6 : 0 ≤ σ 86 6 ∧ σ 86 6 ≤ 32 := hI.1 86 6
  refine qr_aload_n 1 rfl rfl rfl ?_
  refine qr_iload_n 2 rfl rfl rfl ?_
  refine qr_callN 5 rfl rfl rfl (sf_180_86 (d := d + 0) hI r1) ?_
  have hs3 : 0 ≤ σ 86 6 ∧ σ 86 6 ≤ 32 := hI.1 86 6
  rintro _ _ ⟨rfl, v1, rfl, hv1, hp2⟩
  show qr_W (qe L xs vb) (d + 2) qx_e182 _ (5, _, [.int (qz v1)], qw σ α κ ρ, 0, 0)
  refine qr_if_eq 29 8 rfl rfl rfl (qrg hv1 (by decide) (by decide)) (fun h4 => ?_) (fun h4 => ?_)
  · skip
    refine qr_iconst 30 rfl rfl ?_
    refine qr_retI rfl rfl (by decide) (by decide) ?_
    exact ⟨_, _, rfl, hI, hF0, (-1), rfl, (by decide), (Or.inl ⟨rfl, by omega, rfl, rfl, rfl, rfl, rfl, rfl⟩)⟩
  · skip
    refine qr_iload_n 9 rfl rfl rfl ?_
    refine qr_i2l 10 rfl r2 rfl ?_
    refine qr_lconst 11 rfl rfl ?_
    refine qy_vl 0 rfl ?_
    refine qr_lconst 12 rfl rfl ?_
    refine qy_vl 1 rfl ?_
    refine qr_callN 15 rfl rfl rfl (sf_176 (d := d + 1) hI (qrg r2 (by decide) (by decide)) (by decide) (by decide)) ?_
    rintro _ _ ⟨rfl, v5, rfl, hv5, hp6⟩
    show qr_W (qe L xs vb) (d + 2) qx_e182 _ (15, _, [.int (qz v5)], qw σ α κ ρ, 0, 0)
    refine qr_if_eq 29 18 rfl rfl rfl (qrg hv5 (by decide) (by decide)) (fun h7 => ?_) (fun h7 => ?_)
    · skip
      refine qr_iconst 30 rfl rfl ?_
      refine qr_retI rfl rfl (by decide) (by decide) ?_
      exact ⟨_, _, rfl, hI, hF0, (-1), rfl, (by decide), (Or.inl ⟨rfl, by omega, rfl, rfl, rfl, rfl, rfl, rfl⟩)⟩
    · skip
      refine qr_aload_n 19 rfl rfl rfl ?_
      refine qr_iconst 20 rfl rfl ?_
      refine qr_iload_n 21 rfl rfl rfl ?_
      refine qr_iadd 22 rfl rfl ?_
      refine qr_iload_n 23 rfl rfl rfl ?_
      refine qr_callN 26 rfl rfl rfl (sf_183_86x (d := d + 1) hI (by omega) r2) ?_
      rintro _ _ ⟨σ11, α12, rfl, hI13, hG14, v8, rfl, hv8, hp9, hx10⟩
      have hF15 : qFr [(86, 4), (86, 5)] [87, 88, 89, 90] σ α σ11 α12 := qFr_t hF0 hG14 (by decide) (by decide)
      show qr_W (qe L xs vb) (d + 2) qx_e182 _ (26, _, [.int (qz v8)], qw σ11 α12 κ ρ, 0, 0)
      refine qr_goto 30 rfl rfl ?_
      refine qr_retI rfl rfl (by decide) (by decide) ?_
      exact ⟨_, _, rfl, hI13, hF15, v8, rfl, hv8, (Or.inr ⟨by omega, hp9, hx10⟩)⟩

set_option maxHeartbeats 4000000 in
set_option maxRecDepth 20000 in
/-- OneRoofModel.pay -/
theorem sf_193_86x {L : Nat} {xs : Nat → Int} {vb : Bool} {d : Nat} {σ α : Nat → Nat → Int} {κ : Nat → Option Nat} {ρ : Nat} {x1 : Int} {x2 : Int} (hI : qI σ α κ ρ) (r1 : (-2147483648) ≤ x1 ∧ x1 ≤ 2147483647) (r2 : (-2147483648) ≤ x2 ∧ x2 ≤ 2147483647) : qm_T (qe L xs vb) (d + 2) 193 [.ref 86, .int (qz x1), .int (qz x2)] (qw σ α κ ρ) (fun r w' => ∃ σ' α', w' = qw σ' α' κ ρ ∧ qI σ' α' κ ρ ∧ qFr [(86, 4), (86, 5)] [87, 88, 89, 90] σ α σ' α' ∧ ∃ v : Int, r = some (.int (qz v)) ∧ ((-2147483648) ≤ v ∧ v ≤ 2147483647) ∧ ((v = -1 ∧ ¬ (0 ≤ x1 ∧ x1 < σ 86 16 ∧ 0 ≤ x2 ∧ x2 ≤ 2400) ∧ (α' 87 = α 87 ∧ α' 88 = α 88 ∧ α' 89 = α 89 ∧ α' 90 = α 90 ∧ σ' 86 5 = σ 86 5 ∧ σ' 86 4 = σ 86 4)) ∨ ((0 ≤ x1 ∧ x1 < σ 86 16 ∧ 0 ≤ x2 ∧ x2 ≤ 2400) ∧ v = α 87 (32 + x1 : Int).toNat ∧ (α' 87 = (qbec (α 87, α 88, α 89, α 90, σ 86 5, σ 86 4) (32 + x1) x2).1 ∧ α' 88 = (qbec (α 87, α 88, α 89, α 90, σ 86 5, σ 86 4) (32 + x1) x2).2.1 ∧ α' 89 = (qbec (α 87, α 88, α 89, α 90, σ 86 5, σ 86 4) (32 + x1) x2).2.2.1 ∧ α' 90 = (qbec (α 87, α 88, α 89, α 90, σ 86 5, σ 86 4) (32 + x1) x2).2.2.2.1 ∧ σ' 86 5 = (qbec (α 87, α 88, α 89, α 90, σ 86 5, σ 86 4) (32 + x1) x2).2.2.2.2.1 ∧ σ' 86 4 = (qbec (α 87, α 88, α 89, α 90, σ 86 5, σ 86 4) (32 + x1) x2).2.2.2.2.2)))) := by
  refine qr_start (d := d + 1) qv_e193 (Nat.le_of_ble_eq_true rfl) ?_
  show qr_W (qe L xs vb) (d + 1) qx_e193 _ (0, [(0, .ref 86), (1, .int (qz x1)), (2, .int (qz x2))], [], _, 0, 0)
  have hF0 := qFr_rf [(86, 4), (86, 5)] [87, 88, 89, 90] σ α
  have hz86_16 : 0 ≤ σ 86 16 ∧ σ 86 16 ≤ 40 := hI.1 86 16
  refine qr_iload_n 1 rfl rfl rfl ?_
  refine qr_i2l 2 rfl r1 rfl ?_
  refine qr_lconst 3 rfl rfl ?_
  refine qy_vl 0 rfl ?_
  refine qr_aload_n 4 rfl rfl rfl ?_
  refine qr_get 7 rfl rfl rfl (by decide) rfl ?_
  refine qr_iconst 8 rfl rfl ?_
  refine qr_isub 9 rfl rfl ?_
  refine qr_i2l 10 rfl (by omega) rfl ?_
  refine qr_callN 13 rfl rfl rfl (sf_176 (d := d + 0) hI (qrg r1 (by decide) (by decide)) (by decide) (by omega)) ?_
  rintro _ _ ⟨rfl, v1, rfl, hv1, hp2⟩
  show qr_W (qe L xs vb) (d + 1) qx_e193 _ (13, _, [.int (qz v1)], qw σ α κ ρ, 0, 0)
  refine qr_if_eq 40 16 rfl rfl rfl (qrg hv1 (by decide) (by decide)) (fun h3 => ?_) (fun h3 => ?_)
  · skip
    refine qr_iconst 41 rfl rfl ?_
    refine qr_retI rfl rfl (by decide) (by decide) ?_
    exact ⟨_, _, rfl, hI, hF0, (-1), rfl, (by decide), (Or.inl ⟨rfl, by omega, rfl, rfl, rfl, rfl, rfl, rfl⟩)⟩
  · skip
    refine qr_iload_n 17 rfl rfl rfl ?_
    refine qr_i2l 18 rfl r2 rfl ?_
    refine qr_lconst 19 rfl rfl ?_
    refine qy_vl 0 rfl ?_
    refine qr_ldc2 2400 22 rfl (by decide) rfl ?_
    refine qr_callN 25 rfl rfl rfl (sf_176 (d := d + 0) hI (qrg r2 (by decide) (by decide)) (by decide) (by decide)) ?_
    rintro _ _ ⟨rfl, v4, rfl, hv4, hp5⟩
    show qr_W (qe L xs vb) (d + 1) qx_e193 _ (25, _, [.int (qz v4)], qw σ α κ ρ, 0, 0)
    refine qr_if_eq 40 28 rfl rfl rfl (qrg hv4 (by decide) (by decide)) (fun h6 => ?_) (fun h6 => ?_)
    · skip
      refine qr_iconst 41 rfl rfl ?_
      refine qr_retI rfl rfl (by decide) (by decide) ?_
      exact ⟨_, _, rfl, hI, hF0, (-1), rfl, (by decide), (Or.inl ⟨rfl, by omega, rfl, rfl, rfl, rfl, rfl, rfl⟩)⟩
    · skip
      refine qr_aload_n 29 rfl rfl rfl ?_
      refine qr_bipush 31 rfl (by decide) rfl ?_
      refine qr_iload_n 32 rfl rfl rfl ?_
      refine qr_iadd 33 rfl rfl ?_
      refine qr_iload_n 34 rfl rfl rfl ?_
      refine qr_callN 37 rfl rfl rfl (sf_183_86x (d := d + 0) hI (by omega) r2) ?_
      rintro _ _ ⟨σ10, α11, rfl, hI12, hG13, v7, rfl, hv7, hp8, hx9⟩
      have hF14 : qFr [(86, 4), (86, 5)] [87, 88, 89, 90] σ α σ10 α11 := qFr_t hF0 hG13 (by decide) (by decide)
      show qr_W (qe L xs vb) (d + 1) qx_e193 _ (37, _, [.int (qz v7)], qw σ10 α11 κ ρ, 0, 0)
      refine qr_goto 41 rfl rfl ?_
      refine qr_retI rfl rfl (by decide) (by decide) ?_
      exact ⟨_, _, rfl, hI12, hF14, v7, rfl, hv7, (Or.inr ⟨by omega, hp8, hx9⟩)⟩

set_option maxHeartbeats 4000000 in
set_option maxRecDepth 20000 in
/-- OneRoofModel.cover -/
theorem sf_203_86x {L : Nat} {xs : Nat → Int} {vb : Bool} {d : Nat} {σ α : Nat → Nat → Int} {κ : Nat → Option Nat} {ρ : Nat} {x1 : Int} {x2 : Int} {x3 : Int} (hI : qI σ α κ ρ) (r1 : (-2147483648) ≤ x1 ∧ x1 ≤ 2147483647) (r2 : (-2147483648) ≤ x2 ∧ x2 ≤ 2147483647) (r3 : (-2147483648) ≤ x3 ∧ x3 ≤ 2147483647) : qm_T (qe L xs vb) (d + 3) 203 [.ref 86, .int (qz x1), .int (qz x2), .int (qz x3)] (qw σ α κ ρ) (fun r w' => ∃ σ' α', w' = qw σ' α' κ ρ ∧ qI σ' α' κ ρ ∧ qFr [(86, 4), (86, 5)] [87, 88, 89, 90] σ α σ' α' ∧ ∃ v : Int, r = some (.int (qz v)) ∧ ((-2147483648) ≤ v ∧ v ≤ 2147483647) ∧ ((v = -1 ∧ ¬ (0 ≤ x1 ∧ x1 < σ 86 24 ∧ 0 ≤ x2 ∧ x2 < σ 86 6 ∧ 0 ≤ x3 ∧ x3 ≤ 1) ∧ (α' 87 = α 87 ∧ α' 88 = α 88 ∧ α' 89 = α 89 ∧ α' 90 = α 90 ∧ σ' 86 5 = σ 86 5 ∧ σ' 86 4 = σ 86 4)) ∨ ((0 ≤ x1 ∧ x1 < σ 86 24 ∧ 0 ≤ x2 ∧ x2 < σ 86 6 ∧ 0 ≤ x3 ∧ x3 ≤ 1) ∧ v = qcw (α 87) (x1 : Int).toNat x2 ∧ (α' 87 = (qbec (α 87, α 88, α 89, α 90, σ 86 5, σ 86 4) (72 + 2 * x1 + x2 / 16) (qcj (α 87 (72 + 2 * x1 + x2 / 16).toNat) (x2 % 16) x3)).1 ∧ α' 88 = (qbec (α 87, α 88, α 89, α 90, σ 86 5, σ 86 4) (72 + 2 * x1 + x2 / 16) (qcj (α 87 (72 + 2 * x1 + x2 / 16).toNat) (x2 % 16) x3)).2.1 ∧ α' 89 = (qbec (α 87, α 88, α 89, α 90, σ 86 5, σ 86 4) (72 + 2 * x1 + x2 / 16) (qcj (α 87 (72 + 2 * x1 + x2 / 16).toNat) (x2 % 16) x3)).2.2.1 ∧ α' 90 = (qbec (α 87, α 88, α 89, α 90, σ 86 5, σ 86 4) (72 + 2 * x1 + x2 / 16) (qcj (α 87 (72 + 2 * x1 + x2 / 16).toNat) (x2 % 16) x3)).2.2.2.1 ∧ σ' 86 5 = (qbec (α 87, α 88, α 89, α 90, σ 86 5, σ 86 4) (72 + 2 * x1 + x2 / 16) (qcj (α 87 (72 + 2 * x1 + x2 / 16).toNat) (x2 % 16) x3)).2.2.2.2.1 ∧ σ' 86 4 = (qbec (α 87, α 88, α 89, α 90, σ 86 5, σ 86 4) (72 + 2 * x1 + x2 / 16) (qcj (α 87 (72 + 2 * x1 + x2 / 16).toNat) (x2 % 16) x3)).2.2.2.2.2)))) := by
  refine qr_start (d := d + 2) qv_e203 (Nat.le_of_ble_eq_true rfl) ?_
  show qr_W (qe L xs vb) (d + 2) qx_e203 _ (0, [(0, .ref 86), (1, .int (qz x1)), (2, .int (qz x2)), (3, .int (qz x3))], [], _, 0, 0)
  have hF0 := qFr_rf [(86, 4), (86, 5)] [87, 88, 89, 90] σ α
  have hz86_6 : 0 ≤ σ 86 6 ∧ σ 86 6 ≤ 32 := hI.1 86 6
  have hz86_24 : 0 ≤ σ 86 24 ∧ σ 86 24 ≤ 60 := hI.1 86 24
  refine qr_aload_n 1 rfl rfl rfl ?_
  refine qr_iload_n 2 rfl rfl rfl ?_
  refine qr_callN 5 rfl rfl rfl (sf_200_86 (d := d + 0) hI r1) ?_
  have hs3 : 0 ≤ σ 86 24 ∧ σ 86 24 ≤ 60 := hI.1 86 24
  rintro _ _ ⟨rfl, v1, rfl, hv1, hp2⟩
  show qr_W (qe L xs vb) (d + 2) qx_e203 _ (5, _, [.int (qz v1)], qw σ α κ ρ, 0, 0)
  refine qr_if_eq 26 8 rfl rfl rfl (qrg hv1 (by decide) (by decide)) (fun h4 => ?_) (fun h4 => ?_)
  · skip
    refine qr_iconst 27 rfl rfl ?_
    refine qr_retI rfl rfl (by decide) (by decide) ?_
    exact ⟨_, _, rfl, hI, hF0, (-1), rfl, (by decide), (Or.inl ⟨rfl, by omega, rfl, rfl, rfl, rfl, rfl, rfl⟩)⟩
  · skip
    refine qr_aload_n 9 rfl rfl rfl ?_
    refine qr_iload_n 10 rfl rfl rfl ?_
    refine qr_callN 13 rfl rfl rfl (sf_180_86 (d := d + 0) hI r2) ?_
    have hs7 : 0 ≤ σ 86 6 ∧ σ 86 6 ≤ 32 := hI.1 86 6
    rintro _ _ ⟨rfl, v5, rfl, hv5, hp6⟩
    show qr_W (qe L xs vb) (d + 2) qx_e203 _ (13, _, [.int (qz v5)], qw σ α κ ρ, 0, 0)
    refine qr_if_eq 26 16 rfl rfl rfl (qrg hv5 (by decide) (by decide)) (fun h8 => ?_) (fun h8 => ?_)
    · skip
      refine qr_iconst 27 rfl rfl ?_
      refine qr_retI rfl rfl (by decide) (by decide) ?_
      exact ⟨_, _, rfl, hI, hF0, (-1), rfl, (by decide), (Or.inl ⟨rfl, by omega, rfl, rfl, rfl, rfl, rfl, rfl⟩)⟩
    · skip
      refine qr_iload_n 17 rfl rfl rfl ?_
      refine qr_i2l 18 rfl r3 rfl ?_
      refine qr_lconst 19 rfl rfl ?_
      refine qy_vl 0 rfl ?_
      refine qr_lconst 20 rfl rfl ?_
      refine qy_vl 1 rfl ?_
      refine qr_callN 23 rfl rfl rfl (sf_176 (d := d + 1) hI (qrg r3 (by decide) (by decide)) (by decide) (by decide)) ?_
      rintro _ _ ⟨rfl, v9, rfl, hv9, hp10⟩
      show qr_W (qe L xs vb) (d + 2) qx_e203 _ (23, _, [.int (qz v9)], qw σ α κ ρ, 0, 0)
      refine qr_if_ne 28 26 rfl rfl rfl (qrg hv9 (by decide) (by decide)) (fun h11 => ?_) (fun h11 => ?_)
      · skip
        refine qr_aload_n 29 rfl rfl rfl ?_
        refine qr_iload_n 30 rfl rfl rfl ?_
        refine qr_iload_n 31 rfl rfl rfl ?_
        refine qr_callN 34 rfl rfl rfl (sf_202_86x (d := d + 1) hI (by omega) (by omega)) ?_
        rintro _ _ ⟨rfl, v12, rfl, hv12, hp13⟩
        show qr_W (qe L xs vb) (d + 2) qx_e203 _ (34, _, [.int (qz v12)], qw σ α κ ρ, 0, 0)
        refine qr_if_eq 41 37 rfl rfl rfl (qrg hv12 (by decide) (by decide)) (fun h14 => ?_) (fun h14 => ?_)
        · skip
          refine qr_iconst 42 rfl rfl ?_
          refine qr_istore _ 44 rfl (by decide) rfl rfl ?_
          refine qr_bipush 46 rfl (by decide) rfl ?_
          refine qr_iconst 47 rfl rfl ?_
          refine qr_iload_n 48 rfl rfl rfl ?_
          refine qr_imul 49 rfl rfl ?_
          refine qr_iadd 50 rfl rfl ?_
          refine qr_iload_n 51 rfl rfl rfl ?_
          refine qr_bipush 53 rfl (by decide) rfl ?_
          refine qr_idiv 54 rfl (by omega) (by decide) rfl ?_
          refine qr_iadd 55 rfl rfl ?_
          refine qr_istore _ 57 rfl (by decide) rfl rfl ?_
          refine qr_iload_n 58 rfl rfl rfl ?_
          refine qr_iconst 59 rfl rfl ?_
          refine qr_icmp_ne 79 62 rfl rfl rfl r3 (by decide) (fun h15 => ?_) (fun h15 => ?_)
          · skip
            refine qr_aload_n 80 rfl rfl rfl ?_
            refine qr_get 83 rfl rfl rfl (by decide) rfl ?_
            refine qr_iload 85 rfl rfl rfl ?_
            refine qr_iaload 86 rfl rfl (by omega) (by decide) rfl ?_
            refine qr_topI (fun v16 hv16 => ?_)
            have hs17 : (-2147483648) ≤ v16 ∧ v16 ≤ 2147483647 := by rw [hv16]; exact hI.2.1 87 _ (show _ < 252 by omega)
            refine qr_iconst 87 rfl rfl ?_
            refine qr_iload_n 88 rfl rfl rfl ?_
            refine qr_bipush 90 rfl (by decide) rfl ?_
            refine qr_irem 91 rfl (by omega) (by decide) rfl ?_
            refine qr_ishl 92 rfl rfl ?_
            refine qy_canE (fun v18 hv18 hev18 => ?_)
            refine qr_iconst 93 rfl rfl ?_
            refine qr_ixor 94 rfl rfl ?_
            refine qy_canE (fun v19 hv19 hev19 => ?_)
            refine qr_iand 95 rfl rfl ?_
            refine qy_canE (fun v20 hv20 hev20 => ?_)
            refine qr_istore _ 97 rfl (by decide) rfl rfl ?_
            refine qr_aload_n 98 rfl rfl rfl ?_
            refine qr_iload 100 rfl rfl rfl ?_
            refine qr_iload 102 rfl rfl rfl ?_
            have hw21 : v20 = qcj (α 87 (72 + 2 * x1 + x2 / 16).toNat) (x2 % 16) x3 := (by unfold qcj; rw [if_neg (by omega), qz_val hev20 (by omega) (qz_and_r _ _), qz_val hev19 (by omega) (qz_xor_r _ _), qz_val hev18 (by omega) (qz_shl_r _ _), hv16])
            as_aux_lemma =>
              refine qr_callN 105 rfl rfl rfl (sf_183_86x (d := d + 1) hI (by omega) hv20) ?_
              rintro _ _ ⟨σ25, α26, rfl, hI27, hG28, v22, rfl, hv22, hp23, hx24⟩
              have hF29 : qFr [(86, 4), (86, 5)] [87, 88, 89, 90] σ α σ25 α26 := qFr_t hF0 hG28 (by decide) (by decide)
              show qr_W (qe L xs vb) (d + 2) qx_e203 _ (105, _, [.int (qz v22)], qw σ25 α26 κ ρ, 0, 0)
              refine qr_istore _ 107 rfl (by decide) rfl rfl ?_
              refine qr_iload 109 rfl rfl rfl ?_
              refine qr_retI rfl rfl (by decide) (by decide) ?_
              exact ⟨_, _, rfl, hI27, hF29, 0, rfl, (by decide), (Or.inr ⟨by omega, (by have hc := hp13; omega), by rw [← hw21]; exact hx24⟩)⟩
          · skip
            refine qr_aload_n 63 rfl rfl rfl ?_
            refine qr_get 66 rfl rfl rfl (by decide) rfl ?_
            refine qr_iload 68 rfl rfl rfl ?_
            refine qr_iaload 69 rfl rfl (by omega) (by decide) rfl ?_
            refine qr_topI (fun v30 hv30 => ?_)
            have hs31 : (-2147483648) ≤ v30 ∧ v30 ≤ 2147483647 := by rw [hv30]; exact hI.2.1 87 _ (show _ < 252 by omega)
            refine qr_iconst 70 rfl rfl ?_
            refine qr_iload_n 71 rfl rfl rfl ?_
            refine qr_bipush 73 rfl (by decide) rfl ?_
            refine qr_irem 74 rfl (by omega) (by decide) rfl ?_
            refine qr_ishl 75 rfl rfl ?_
            refine qy_canE (fun v32 hv32 hev32 => ?_)
            refine qr_ior 76 rfl rfl ?_
            refine qy_canE (fun v33 hv33 hev33 => ?_)
            refine qr_goto 95 rfl rfl ?_
            refine qr_istore _ 97 rfl (by decide) rfl rfl ?_
            refine qr_aload_n 98 rfl rfl rfl ?_
            refine qr_iload 100 rfl rfl rfl ?_
            refine qr_iload 102 rfl rfl rfl ?_
            have hw34 : v33 = qcj (α 87 (72 + 2 * x1 + x2 / 16).toNat) (x2 % 16) x3 := (by unfold qcj; rw [if_pos (by omega), qz_val hev33 (by omega) (qz_or_r _ _), qz_val hev32 (by omega) (qz_shl_r _ _), hv30])
            refine qr_callN 105 rfl rfl rfl (sf_183_86x (d := d + 1) hI (by omega) hv33) ?_
            rintro _ _ ⟨σ38, α39, rfl, hI40, hG41, v35, rfl, hv35, hp36, hx37⟩
            have hF42 : qFr [(86, 4), (86, 5)] [87, 88, 89, 90] σ α σ38 α39 := qFr_t hF0 hG41 (by decide) (by decide)
            show qr_W (qe L xs vb) (d + 2) qx_e203 _ (105, _, [.int (qz v35)], qw σ38 α39 κ ρ, 0, 0)
            as_aux_lemma =>
              refine qr_istore _ 107 rfl (by decide) rfl rfl ?_
              refine qr_iload 109 rfl rfl rfl ?_
              refine qr_retI rfl rfl (by decide) (by decide) ?_
              exact ⟨_, _, rfl, hI40, hF42, 0, rfl, (by decide), (Or.inr ⟨by omega, (by have hc := hp13; omega), by rw [← hw34]; exact hx37⟩)⟩
        · skip
          refine qr_iconst 38 rfl rfl ?_
          refine qr_goto 42 rfl rfl ?_
          refine qr_istore _ 44 rfl (by decide) rfl rfl ?_
          refine qr_bipush 46 rfl (by decide) rfl ?_
          refine qr_iconst 47 rfl rfl ?_
          refine qr_iload_n 48 rfl rfl rfl ?_
          refine qr_imul 49 rfl rfl ?_
          refine qr_iadd 50 rfl rfl ?_
          refine qr_iload_n 51 rfl rfl rfl ?_
          refine qr_bipush 53 rfl (by decide) rfl ?_
          refine qr_idiv 54 rfl (by omega) (by decide) rfl ?_
          refine qr_iadd 55 rfl rfl ?_
          refine qr_istore _ 57 rfl (by decide) rfl rfl ?_
          refine qr_iload_n 58 rfl rfl rfl ?_
          refine qr_iconst 59 rfl rfl ?_
          refine qr_icmp_ne 79 62 rfl rfl rfl r3 (by decide) (fun h43 => ?_) (fun h43 => ?_)
          · skip
            refine qr_aload_n 80 rfl rfl rfl ?_
            refine qr_get 83 rfl rfl rfl (by decide) rfl ?_
            refine qr_iload 85 rfl rfl rfl ?_
            refine qr_iaload 86 rfl rfl (by omega) (by decide) rfl ?_
            refine qr_topI (fun v44 hv44 => ?_)
            have hs45 : (-2147483648) ≤ v44 ∧ v44 ≤ 2147483647 := by rw [hv44]; exact hI.2.1 87 _ (show _ < 252 by omega)
            refine qr_iconst 87 rfl rfl ?_
            refine qr_iload_n 88 rfl rfl rfl ?_
            refine qr_bipush 90 rfl (by decide) rfl ?_
            refine qr_irem 91 rfl (by omega) (by decide) rfl ?_
            refine qr_ishl 92 rfl rfl ?_
            refine qy_canE (fun v46 hv46 hev46 => ?_)
            refine qr_iconst 93 rfl rfl ?_
            refine qr_ixor 94 rfl rfl ?_
            refine qy_canE (fun v47 hv47 hev47 => ?_)
            refine qr_iand 95 rfl rfl ?_
            refine qy_canE (fun v48 hv48 hev48 => ?_)
            refine qr_istore _ 97 rfl (by decide) rfl rfl ?_
            refine qr_aload_n 98 rfl rfl rfl ?_
            refine qr_iload 100 rfl rfl rfl ?_
            as_aux_lemma =>
              refine qr_iload 102 rfl rfl rfl ?_
              have hw49 : v48 = qcj (α 87 (72 + 2 * x1 + x2 / 16).toNat) (x2 % 16) x3 := (by unfold qcj; rw [if_neg (by omega), qz_val hev48 (by omega) (qz_and_r _ _), qz_val hev47 (by omega) (qz_xor_r _ _), qz_val hev46 (by omega) (qz_shl_r _ _), hv44])
              refine qr_callN 105 rfl rfl rfl (sf_183_86x (d := d + 1) hI (by omega) hv48) ?_
              rintro _ _ ⟨σ53, α54, rfl, hI55, hG56, v50, rfl, hv50, hp51, hx52⟩
              have hF57 : qFr [(86, 4), (86, 5)] [87, 88, 89, 90] σ α σ53 α54 := qFr_t hF0 hG56 (by decide) (by decide)
              show qr_W (qe L xs vb) (d + 2) qx_e203 _ (105, _, [.int (qz v50)], qw σ53 α54 κ ρ, 0, 0)
              refine qr_istore _ 107 rfl (by decide) rfl rfl ?_
              refine qr_iload 109 rfl rfl rfl ?_
              refine qr_retI rfl rfl (by decide) (by decide) ?_
              exact ⟨_, _, rfl, hI55, hF57, 1, rfl, (by decide), (Or.inr ⟨by omega, (by have hc := hp13; omega), by rw [← hw49]; exact hx52⟩)⟩
          · skip
            refine qr_aload_n 63 rfl rfl rfl ?_
            refine qr_get 66 rfl rfl rfl (by decide) rfl ?_
            refine qr_iload 68 rfl rfl rfl ?_
            refine qr_iaload 69 rfl rfl (by omega) (by decide) rfl ?_
            refine qr_topI (fun v58 hv58 => ?_)
            have hs59 : (-2147483648) ≤ v58 ∧ v58 ≤ 2147483647 := by rw [hv58]; exact hI.2.1 87 _ (show _ < 252 by omega)
            refine qr_iconst 70 rfl rfl ?_
            refine qr_iload_n 71 rfl rfl rfl ?_
            refine qr_bipush 73 rfl (by decide) rfl ?_
            refine qr_irem 74 rfl (by omega) (by decide) rfl ?_
            refine qr_ishl 75 rfl rfl ?_
            refine qy_canE (fun v60 hv60 hev60 => ?_)
            refine qr_ior 76 rfl rfl ?_
            refine qy_canE (fun v61 hv61 hev61 => ?_)
            refine qr_goto 95 rfl rfl ?_
            refine qr_istore _ 97 rfl (by decide) rfl rfl ?_
            refine qr_aload_n 98 rfl rfl rfl ?_
            refine qr_iload 100 rfl rfl rfl ?_
            refine qr_iload 102 rfl rfl rfl ?_
            have hw62 : v61 = qcj (α 87 (72 + 2 * x1 + x2 / 16).toNat) (x2 % 16) x3 := (by unfold qcj; rw [if_pos (by omega), qz_val hev61 (by omega) (qz_or_r _ _), qz_val hev60 (by omega) (qz_shl_r _ _), hv58])
            as_aux_lemma =>
              refine qr_callN 105 rfl rfl rfl (sf_183_86x (d := d + 1) hI (by omega) hv61) ?_
              rintro _ _ ⟨σ66, α67, rfl, hI68, hG69, v63, rfl, hv63, hp64, hx65⟩
              have hF70 : qFr [(86, 4), (86, 5)] [87, 88, 89, 90] σ α σ66 α67 := qFr_t hF0 hG69 (by decide) (by decide)
              show qr_W (qe L xs vb) (d + 2) qx_e203 _ (105, _, [.int (qz v63)], qw σ66 α67 κ ρ, 0, 0)
              refine qr_istore _ 107 rfl (by decide) rfl rfl ?_
              refine qr_iload 109 rfl rfl rfl ?_
              refine qr_retI rfl rfl (by decide) (by decide) ?_
              exact ⟨_, _, rfl, hI68, hF70, 1, rfl, (by decide), (Or.inr ⟨by omega, (by have hc := hp13; omega), by rw [← hw62]; exact hx65⟩)⟩
      · skip
        refine qr_iconst 27 rfl rfl ?_
        refine qr_retI rfl rfl (by decide) (by decide) ?_
        exact ⟨_, _, rfl, hI, hF0, (-1), rfl, (by decide), (Or.inl ⟨rfl, by omega, rfl, rfl, rfl, rfl, rfl, rfl⟩)⟩
end
section
/-! in deed -/
noncomputable def qkn (l : List Int) (h : qHS) : qHS := l.foldl (fun h k => qbec h (192 + k) 6) h
theorem qkn_app (l : List Int) (k : Int) (h : qHS) : qkn (l ++ [k]) h = qbec (qkn l h) (192 + k) 6 := by
  unfold qkn
  rw [List.foldl_append]
  rfl
theorem qbec_m (h : qHS) (a w : Int) : (qbec h a w).1 = qzu h.1 a.toNat w := by
  by_cases e : h.1 a.toNat = w
  · rw [show qbec h a w = h from if_pos e]
    exact qzu_self e.symm
  · rw [show qbec h a w = _ from if_neg e]
theorem qkn_m : ∀ (l : List Int) (h : qHS), (∀ x ∈ l, 0 ≤ x) → ∀ a : Nat, (qkn l h).1 a = if 192 ≤ a ∧ ((a : Int) - 192) ∈ l then 6 else h.1 a
  | [], h, _, a => (if_neg (fun z => absurd z.2 (List.not_mem_nil))).symm
  | x :: l, h, hx, a => by
    have ih := qkn_m l (qbec h (192 + x) 6) (fun y hy => hx y (List.mem_cons_of_mem _ hy)) a
    have h0 := hx x (List.mem_cons_self)
    have e : (qkn (x :: l) h).1 a = (qkn l (qbec h (192 + x) 6)).1 a := rfl
    rw [e, ih, qbec_m]
    have e2 : qzu h.1 (192 + x).toNat 6 a = if a = (192 + x).toNat then 6 else h.1 a := rfl
    by_cases c : 192 ≤ a ∧ ((a : Int) - 192) ∈ l
    · rw [if_pos c, if_pos ⟨c.1, List.mem_cons_of_mem _ c.2⟩]
    · rw [if_neg c, e2]
      by_cases d : a = (192 + x).toNat
      · rw [if_pos d, if_pos ⟨by omega, by rw [show (a : Int) - 192 = x by omega]; exact List.mem_cons_self⟩]
      · rw [if_neg d, if_neg (fun z => ?_)]
        rcases List.mem_cons.mp z.2 with f | f
        · exact d (by omega)
        · exact c ⟨z.1, f⟩
/-- the bits of those broken and their list -/
def qBk (b : Int) (l : List Int) : Prop := (∀ x ∈ l, 0 ≤ x ∧ x ≤ 59) ∧ ∀ k : Nat, k < 64 → (qbit b (k : Int) = 1 ↔ (k : Int) ∈ l)
theorem qBk_0 : qBk 0 [] := ⟨fun x h => absurd h (List.not_mem_nil), fun k _ => ⟨fun h => by rw [qbit_0] at h; exact absurd h (by decide), fun h => absurd h (List.not_mem_nil)⟩⟩
theorem qBr_mem {P : Nat → Int} : ∀ (n : Nat) (x : Int), x ∈ qBr P n ↔ (0 ≤ x ∧ x < (n : Int)) ∧ P x.toNat = 1
  | 0, x => ⟨fun h => absurd h (List.not_mem_nil), fun h => absurd h.1 (by omega)⟩
  | n + 1, x => by
    have ih := qBr_mem (P := P) n x
    show x ∈ (if P n = 1 then qBr P n ++ [(n : Int)] else qBr P n) ↔ _
    by_cases c : P n = 1
    · rw [if_pos c, List.mem_append, ih]
      constructor
      · rintro (h | h)
        · exact ⟨by omega, h.2⟩
        · have e : x = (n : Int) := List.mem_singleton.mp h
          exact ⟨by omega, by rw [e, Int.toNat_natCast]; exact c⟩
      · intro h
        by_cases d : x = (n : Int)
        · exact Or.inr (List.mem_singleton.mpr d)
        · exact Or.inl ⟨by omega, h.2⟩
    · rw [if_neg c, ih]
      constructor
      · intro h
        exact ⟨by omega, h.2⟩
      · intro h
        refine ⟨⟨h.1.1, ?_⟩, h.2⟩
        by_cases d : x = (n : Int)
        · exact absurd (by have := h.2; rw [d, Int.toNat_natCast] at this; exact this) c
        · omega
theorem qBk_land {b : Int} {l : List Int} {P : Nat → Int} {n : Nat} (hn : n ≤ 60) (h : qBk b l) : qBk (ql_or b (qbs P n)) (l ++ qBr P n) := by
  refine ⟨fun x hx => ?_, fun k hk => ?_⟩
  · rcases List.mem_append.mp hx with f | f
    · exact h.1 x f
    · have := (qBr_mem n x).mp f
      omega
  · have a1 := qbor_c b (qbs P n) (k : Int)
    have a2 := qbs_c P (i := (k : Int)) (by omega) (n := n) (by omega)
    rw [Int.toNat_natCast] at a2
    have a3 := h.2 k hk
    have a4 := qBr_mem (P := P) n (k : Int)
    rw [Int.toNat_natCast] at a4
    rw [List.mem_append, a4, ← a3]
    omega
/-- the numbers that may change, with the peaces of b broken -/
def qDd (m mn : Nat → Int) (b : Int) : Prop := ∀ a : Nat, a < 252 → mn a = if 192 ≤ a ∧ qbit b ((a : Int) - 192) = 1 then 6 else m a
theorem qDd_of {mn : Nat → Int} {h : qHS} {b : Int} {l : List Int} (hb : qBk b l) (e : mn = (qkn l h).1) : qDd h.1 mn b := fun a ha => by
  rw [e, qkn_m l h (fun x hx => (hb.1 x hx).1) a]
  by_cases c : 192 ≤ a
  · have h1 := hb.2 (a - 192) (by omega)
    rw [show (((a - 192 : Nat) : Nat) : Int) = (a : Int) - 192 by omega] at h1
    by_cases d : qbit b ((a : Int) - 192) = 1
    · rw [if_pos ⟨c, h1.mp d⟩, if_pos ⟨c, d⟩]
    · rw [if_neg (fun z => d (h1.mpr z.2)), if_neg (fun z => d z.2)]
  · rw [if_neg (fun z => c z.1), if_neg (fun z => c z.1)]
theorem qDd_lo {m mn : Nat → Int} {b : Int} (h : qDd m mn b) {a : Nat} (ha : a < 192) : mn a = m a := by
  rw [h a (by omega), if_neg (fun z => absurd z.1 (by omega))]
theorem qDd_hi {m mn : Nat → Int} {b : Int} (h : qDd m mn b) {k : Nat} (hk : k < 60) : mn (192 + k) = if qbit b (k : Int) = 1 then 6 else m (192 + k) := by
  rw [h (192 + k) (by omega), show (((192 + k : Nat) : Int) - 192) = (k : Int) by omega]
  by_cases d : qbit b (k : Int) = 1
  · rw [if_pos ⟨by omega, d⟩, if_pos d]
  · rw [if_neg (fun z => d z.2), if_neg d]
theorem qDd_cw {m mn : Nat → Int} {b : Int} (h : qDd m mn b) {k : Nat} (hk : k < 60) {p : Int} (hp : 0 ≤ p ∧ p ≤ 31) : qcw mn k p = qcw m k p := by
  unfold qcw
  rw [qDd_lo h (by omega)]
theorem qhF_d {m mn gv fr t bh ld : Nat → Int} {b p q h : Int} (hd : qDd m mn b) (hp : 0 ≤ p ∧ p ≤ 31) (hq : 0 ≤ q ∧ q ≤ 31) {k : Nat} (hk : k < 60) : qhF (qsh mn 192) gv fr (qun t bh (qsh mn 192)) (qcw mn) (qll ld) p q h k = qhG b (qhF (qsh m 192) gv fr (qun t bh (qsh m 192)) (qcw m) (qll ld) p q h) k := by
  have e1 := qDd_hi hd hk
  have a := qhG_c b (qhF (qsh m 192) gv fr (qun t bh (qsh m 192)) (qcw m) (qll ld) p q h) k
  have hs : ∀ f : Nat → Int, qsh f 192 k = f (192 + k) := fun _ => rfl
  rcases a with a | a
  · rw [a.2]
    unfold qhF qho
    rw [hs, e1, if_pos a.1]
    exact if_pos (Or.inr (Or.inl (by decide)))
  · rw [a.2]
    unfold qhF qun
    rw [hs, hs, e1, if_neg a.1, qDd_cw hd hk hp, qDd_cw hd hk hq]
theorem qZk_d {σ α σn αn : Nat → Nat → Int} {b : Int} (e1 : σn 86 24 = σ 86 24) (h24 : σ 86 24 ≤ 60) (e2 : αn 104 = α 104) (e3 : αn 105 = α 105) (hd : qDd (α 87) (αn 87) b) (h : qZk σ α) : qZk σn αn := fun k hk => by
  have h1 := h k (by omega)
  have h2 := qDd_hi hd (k := k) (by omega)
  have hs : ∀ f : Nat → Int, qsh f 192 k = f (192 + k) := fun _ => rfl
  rw [e2, e3]
  rw [hs] at h1 ⊢
  rw [h2]
  split <;> omega
theorem qNVr_d {σ α σn αn : Nat → Nat → Int} {b de p q st th h : Int} (er : ∀ x, x ∈ [91, 94, 95, 97, 98, 99, 100, 102, 103, 104, 105] → αn x = α x) (s6 : σn 86 6 = σ 86 6) (s11 : σn 86 11 = σ 86 11) (s16 : σn 86 16 = σ 86 16) (s22 : σn 86 22 = σ 86 22) (s24 : σn 86 24 = σ 86 24) (s41 : σn 86 41 = σ 86 41) (h16 : σ 86 16 ≤ 40) (h24 : σ 86 24 ≤ 60) (hd : qDd (α 87) (αn 87) b) (hp : 0 ≤ p ∧ p ≤ 31) (hq : 0 ≤ q ∧ q ≤ 31) : qNVr σn αn 0 de p q st th h = qNVr σ α b de p q st th h := by
  have hK : qnF (qd9 (αn 94) (αn 95) (σn 86 11)) (αn 97) (αn 98) (αn 100) (αn 99) (qsh (αn 87) 32) (σn 86 22) (σn 86 16) p q h = qnF (qd9 (α 94) (α 95) (σ 86 11)) (α 97) (α 98) (α 100) (α 99) (qsh (α 87) 32) (σ 86 22) (σ 86 16) p q h := by
    rw [s11, s16, s22, er 94 (by decide), er 95 (by decide), er 97 (by decide), er 98 (by decide), er 99 (by decide), er 100 (by decide)]
    unfold qnF
    refine qnk_eq _ (fun k hk => ⟨?_, rfl⟩)
    unfold qoF
    rw [show qsh (αn 87) 32 k = qsh (α 87) 32 k from qDd_lo hd (by omega)]
  have hH : qsm (qhG 0 (qhF (qsh (αn 87) 192) (αn 102) (αn 103) (qun (αn 104) (αn 105) (qsh (αn 87) 192)) (qcw (αn 87)) (qll (αn 91)) p q h)) (σn 86 24 : Int).toNat = qsm (qhG b (qhF (qsh (α 87) 192) (α 102) (α 103) (qun (α 104) (α 105) (qsh (α 87) 192)) (qcw (α 87)) (qll (α 91)) p q h)) (σ 86 24 : Int).toNat := by
    rw [s24, er 91 (by decide), er 102 (by decide), er 103 (by decide), er 104 (by decide), er 105 (by decide)]
    refine qsm_eq _ (fun k hk => ?_)
    rw [show qhG 0 (qhF (qsh (αn 87) 192) (α 102) (α 103) (qun (α 104) (α 105) (qsh (αn 87) 192)) (qcw (αn 87)) (qll (α 91)) p q h) k = qhF (qsh (αn 87) 192) (α 102) (α 103) (qun (α 104) (α 105) (qsh (αn 87) 192)) (qcw (αn 87)) (qll (α 91)) p q h k from if_neg (by rw [qbit_0]; decide)]
    exact qhF_d hd hp hq (by omega)
  unfold qNVr
  rw [hK, hH, qDd_lo hd (a := p.toNat) (by omega), qDd_lo hd (a := q.toNat) (by omega), s6, s11, s41, er 91 (by decide), er 94 (by decide), er 95 (by decide)]
/-- the dead of a telling: those that were, and of those there -/
def qDe (d D x : Int) : Prop := ∀ i : Int, 0 ≤ i → i < 64 → (qbit d i = 1 → qbit D i = 1) ∧ (qbit D i = 1 → qbit d i = 1 ∨ qbit x i = 1)
theorem qDe_0 (d x : Int) : qDe d d x := fun _ _ _ => ⟨fun h => h, fun h => Or.inl h⟩
theorem qDe_s {d D D' x q : Int} (hq : 0 ≤ q ∧ q < 64) (hx : qbit x q = 1) (h : qDe d D x) (e : D' = ql_or D (ql_shl 1 q)) : qDe d D' x := fun i h1 h2 => by
  have a := h i h1 h2
  have b := qbor_c D (ql_shl 1 q) i
  have c := qbit_shl hq h1
  rw [← e] at b
  by_cases f : i = q
  · rw [if_pos f] at c
    rw [f] at a b c ⊢
    exact ⟨fun _ => by omega, fun _ => Or.inr hx⟩
  · rw [if_neg f] at c
    refine ⟨fun z => ?_, fun z => a.2 (by omega)⟩
    have := a.1 z
    omega
theorem qDe_eq {d D x l : Int} (hD : -9223372036854775808 ≤ D ∧ D ≤ 9223372036854775807) (h : qDe d D x) (e : ql_and x (ql_xor D (-1)) = l) : D = ql_or d (ql_and (ql_and x (ql_xor d (-1))) (ql_xor l (-1))) := by
  refine qbit_ext hD (ql_or_r _ _) (fun i h1 h2 => ?_)
  have a := h i h1 h2
  have b1 := qbor_c d (ql_and (ql_and x (ql_xor d (-1))) (ql_xor l (-1))) i
  have b2 := qband_c (ql_and x (ql_xor d (-1))) (ql_xor l (-1)) i
  have b3 := qband_c x (ql_xor d (-1)) i
  have b4 := qbit_not d ⟨h1, h2⟩
  have b5 := qbit_not l ⟨h1, h2⟩
  have b6 := qband_c x (ql_xor D (-1)) i
  have b7 := qbit_not D ⟨h1, h2⟩
  rw [e] at b6
  have r1 := qbit_r d i
  have r2 := qbit_r D i
  have r3 := qbit_r l i
  omega
theorem qtr_x {σn αn : Nat → Nat → Int} {g0 g1 : (Nat → Int) → Int} {st hh v N : Int} (hv : -1 ≤ v) (hN : N ≤ 32)
    (h : (0 ≤ v ∧ qFst (fun r t : Int => ¬ t = r ∧ qbit (ql_and st (ql_xor (σn 86 10) (-1))) r = 1 ∧ qbit (ql_and st (ql_xor (σn 86 10) (-1))) t = 1 ∧ ∃ i : Nat, (i : Int) < σn 86 50 ∧ (αn 115 i = t ∧ ¬ g1 (qNVr σn αn (σn 86 29) (σn 86 10) r t (αn 116 i) st hh) = 0)) N v) ∨
      (qFst (fun r t : Int => ¬ t = r ∧ qbit (ql_and st (ql_xor (σn 86 10) (-1))) r = 1 ∧ qbit (ql_and st (ql_xor (σn 86 10) (-1))) t = 1 ∧ ∃ i : Nat, (i : Int) < σn 86 50 ∧ (αn 115 i = t ∧ ¬ g1 (qNVr σn αn (σn 86 29) (σn 86 10) r t (αn 116 i) st hh) = 0)) N (-1) ∧ qFst (fun p q : Int => ¬ q = p ∧ qbit (ql_and st (ql_xor (σn 86 10) (-1))) p = 1 ∧ qbit (ql_and st (ql_xor (σn 86 10) (-1))) q = 1 ∧ ¬ g0 (qNVr σn αn (σn 86 29) (σn 86 10) p q (-1) st hh) = 0) N v)) : v < 0 ∨ qbit st (v % 100) = 1 := by
  have a := qband_c st (ql_xor (σn 86 10) (-1)) (v % 100)
  rcases h with ⟨_, b⟩ | ⟨_, b⟩ <;> rcases b with b | ⟨_, b2, _⟩
  · exact Or.inl (by omega)
  · have := b2.2.2.1
    exact Or.inr (by omega)
  · exact Or.inl (by omega)
  · have := b2.2.2.1
    exact Or.inr (by omega)
theorem qdd_hold {σ A αn : Nat → Nat → Int} {m : Nat → Int} {b z p q h v i : Int} {P : Nat → Int} (e102 : αn 102 = A 102) (e103 : αn 103 = A 103) (e104 : αn 104 = A 104) (e105 : αn 105 = A 105) (e91 : αn 91 = A 91) (hd : qDd (A 87) (αn 87) (ql_or b (qbs P i.toNat))) (hp : 0 ≤ p ∧ p ≤ 31) (hq : 0 ≤ q ∧ q ≤ 31) (hi : 0 ≤ i ∧ i ≤ 59) (hz : z = 0) (hv : v = qhG z (qhF (qsh (αn 87) 192) (αn 102) (αn 103) (qun (αn 104) (αn 105) (qsh (αn 87) 192)) (qcw (αn 87)) (qll (αn 91)) p q h) i.toNat) : v = qHr σ A h b p q i.toNat := by
  rw [hz, e102, e103, e104, e105, e91, show qhG 0 (qhF (qsh (αn 87) 192) (A 102) (A 103) (qun (A 104) (A 105) (qsh (αn 87) 192)) (qcw (αn 87)) (qll (A 91)) p q h) i.toNat = qhF (qsh (αn 87) 192) (A 102) (A 103) (qun (A 104) (A 105) (qsh (αn 87) 192)) (qcw (αn 87)) (qll (A 91)) p q h i.toNat from if_neg (by rw [qbit_0]; decide), qhF_d hd hp hq (by omega), qhG_or (i := i) (by omega) rfl] at hv
  exact hv
theorem qdd_list {P : Nat → Int} {l : List Int} {i : Int} {h0 : qHS} (hi : 0 ≤ i) (hP : ¬ P i.toNat = 1) : qkn (l ++ qBr P (i + 1).toNat) h0 = qkn (l ++ qBr P i.toNat) h0 := by
  have h1 := qBr_s P hi
  rcases h1 with h1 | h1
  · exact absurd h1.1 hP
  · rw [h1.2]
theorem qdd_lis2 {P : Nat → Int} {l : List Int} {i : Int} {h0 : qHS} (hi : 0 ≤ i) (hP : P i.toNat = 1) : qkn (l ++ qBr P (i + 1).toNat) h0 = qbec (qkn (l ++ qBr P i.toNat) h0) (192 + i) 6 := by
  have h1 := qBr_s P hi
  rcases h1 with h1 | h1
  · rw [h1.2, ← List.append_assoc, qkn_app]
  · exact absurd hP h1.1
theorem qdd_tup {a b c d : Nat → Int} {e f : Int} {Q : qHS} (h : a = Q.1 ∧ b = Q.2.1 ∧ c = Q.2.2.1 ∧ d = Q.2.2.2.1 ∧ e = Q.2.2.2.2.1 ∧ f = Q.2.2.2.2.2) : (a, b, c, d, e, f) = Q := by
  rw [h.1, h.2.1, h.2.2.1, h.2.2.2.1, h.2.2.2.2.1, h.2.2.2.2.2]

set_option maxHeartbeats 4000000 in
set_option maxRecDepth 20000 in
/-- OneRoofModel.blowFalls -/
theorem sf_247_86x1 {L : Nat} {xs : Nat → Int} {vb : Bool} {d : Nat} {σ α : Nat → Nat → Int} {κ : Nat → Option Nat} {ρ : Nat} {x1 : Int} {x2 : Int} {x3 : Int} {s : qTS} {st : Int} {A : Nat → Nat → Int} {h0 : qHS} (hI : qI σ α κ ρ) (r1 : 0 ≤ x1 ∧ x1 ≤ 31) (r2 : 0 ≤ x2 ∧ x2 ≤ 31) (r3 : (-2147483648) ≤ x3 ∧ x3 ≤ 2147483647) (p0 : ¬ x1 = x2) (p1 : qZk σ A) (p2 : x1 < σ 86 6 ∧ x2 < σ 86 6) (p3 : σ 86 50 ≤ 30) (p4 : σ 86 29 = 0) (p5 : qBk s.2.2.1 s.2.2.2) (p6 : h0.1 = A 87 ∧ α 102 = A 102 ∧ α 103 = A 103 ∧ α 104 = A 104 ∧ α 105 = A 105 ∧ α 91 = A 91) (p7 : ((α 87, α 88, α 89, α 90, σ 86 5, σ 86 4) : qHS) = qkn s.2.2.2 h0) (p8 : qTr σ α st s) : qm_T (qe L xs vb) (d + 4) 247 [.ref 86, .int (qz x1), .int (qz x2), .int (qz x3), .int (qz 1)] (qw σ α κ ρ) (fun r w' => ∃ σ' α', w' = qw σ' α' κ ρ ∧ qI σ' α' κ ρ ∧ qFr [(86, 4), (86, 5), (86, 10), (86, 50)] [87, 88, 89, 90, 115, 116] σ α σ' α' ∧ σ' 86 50 = σ 86 50 + 1 ∧ r = none ∧ qTr σ' α' st (qland (qHr σ A x3) (qBm σ A) (σ 86 24 : Int).toNat s (100 * x1 + x2)) ∧ ((α' 87, α' 88, α' 89, α' 90, σ' 86 5, σ' 86 4) : qHS) = qkn ((qland (qHr σ A x3) (qBm σ A) (σ 86 24 : Int).toNat s (100 * x1 + x2))).2.2.2 h0 ∧ σ' 86 10 = ql_or (σ 86 10) (ql_shl 1 x2)) := by
  refine qr_start (d := d + 3) qv_e247 (Nat.le_of_ble_eq_true rfl) ?_
  show qr_W (qe L xs vb) (d + 3) qx_e247 _ (0, [(0, .ref 86), (1, .int (qz x1)), (2, .int (qz x2)), (3, .int (qz x3)), (4, .int (qz 1))], [], _, 0, 0)
  have hF0 := qFr_rf [(86, 4), (86, 5), (86, 10), (86, 50)] [87, 88, 89, 90, 115, 116] σ α
  have hz86_6 : 0 ≤ σ 86 6 ∧ σ 86 6 ≤ 32 := hI.1 86 6
  have hz86_50 : 0 ≤ σ 86 50 ∧ σ 86 50 ≤ 31 := hI.1 86 50
  have hz86_29 : (-9223372036854775808) ≤ σ 86 29 ∧ σ 86 29 ≤ 9223372036854775807 := hI.1 86 29
  have hz86_5 : 0 ≤ σ 86 5 ∧ σ 86 5 ≤ 40 := hI.1 86 5
  have hz86_4 : 0 ≤ σ 86 4 ∧ σ 86 4 ≤ 40 := hI.1 86 4
  have hz86_10 : (-9223372036854775808) ≤ σ 86 10 ∧ σ 86 10 ≤ 9223372036854775807 := hI.1 86 10
  have hz86_24 : 0 ≤ σ 86 24 ∧ σ 86 24 ≤ 60 := hI.1 86 24
  refine qr_iconst 1 rfl rfl ?_
  refine qr_istore _ 3 rfl (by decide) rfl rfl ?_
  have hL1437 : ∀ (n : Nat) (ls : qm_L) (u1423 : Int) (σ1424 α1425 : Nat → Nat → Int), 60 - u1423 < (n : Int) → qm_get ls 0 = some (.ref 86) → qm_get ls 1 = some (.int (qz x1)) → qm_get ls 2 = some (.int (qz x2)) → qm_get ls 3 = some (.int (qz x3)) → qm_get ls 4 = some (.int (qz 1)) → qm_get ls 5 = some (.int (qz u1423)) → (0 ≤ u1423 ∧ u1423 ≤ 60) → qI σ1424 α1425 κ ρ → qFr [(86, 4), (86, 5), (86, 10), (86, 50)] [87, 88, 89, 90, 115, 116] σ α σ1424 α1425 → σ1424 86 6 = (σ 86 6) → σ1424 86 10 = (σ 86 10) → σ1424 86 24 = (σ 86 24) → σ1424 86 50 = (σ 86 50) → α1425 115 = (α 115) → α1425 116 = (α 116) → ((α1425 87, α1425 88, α1425 89, α1425 90, σ1424 86 5, σ1424 86 4) : qHS) = qkn (s.2.2.2 ++ qBr (qPk (qHr σ A x3 s.2.2.1 x1 x2) (qBm σ A x1)) (u1423 : Int).toNat) h0 → u1423 ≤ σ 86 24 → qr_W (qe L xs vb) (d + 3) qx_e247 (fun r w' => ∃ σ' α', w' = qw σ' α' κ ρ ∧ qI σ' α' κ ρ ∧ qFr [(86, 4), (86, 5), (86, 10), (86, 50)] [87, 88, 89, 90, 115, 116] σ α σ' α' ∧ σ' 86 50 = σ 86 50 + 1 ∧ r = none ∧ qTr σ' α' st (qland (qHr σ A x3) (qBm σ A) (σ 86 24 : Int).toNat s (100 * x1 + x2)) ∧ ((α' 87, α' 88, α' 89, α' 90, σ' 86 5, σ' 86 4) : qHS) = qkn ((qland (qHr σ A x3) (qBm σ A) (σ 86 24 : Int).toNat s (100 * x1 + x2))).2.2.2 h0 ∧ σ' 86 10 = ql_or (σ 86 10) (ql_shl 1 x2)) (3, ls, [], qw σ1424 α1425 κ ρ, 0, 0) := by
    intro n
    induction n with
    | zero => intro ls u1423 σ1424 α1425 hm g1417 g1418 g1419 g1420 g1421 g1422 hf1434 hI1426 hF1427 hk1428 hk1429 hk1430 hk1431 hk1432 hk1433 hx1435 hx1436; exact False.elim (by omega)
    | succ n ih1438 =>
      intro ls u1423 σ1424 α1425 hm g1417 g1418 g1419 g1420 g1421 g1422 hf1434 hI1426 hF1427 hk1428 hk1429 hk1430 hk1431 hk1432 hk1433 hx1435 hx1436
      have hs1439 : 0 ≤ σ1424 86 5 ∧ σ1424 86 5 ≤ 40 := hI1426.1 86 5
      have hs1440 : 0 ≤ σ1424 86 4 ∧ σ1424 86 4 ≤ 40 := hI1426.1 86 4
      refine qr_iload 5 rfl g1422 rfl ?_
      refine qr_aload_n 6 rfl g1417 rfl ?_
      refine qr_get 9 rfl rfl rfl (by decide) rfl ?_
      refine qy_v (σ 86 24) ((hk1430).trans rfl) ?_
      refine qr_icmp_ge 86 12 rfl rfl rfl (qrg hf1434 (by decide) (by decide)) (qrg hz86_24 (by decide) (by decide)) (fun h1441 => ?_) (fun h1441 => ?_)
      · skip
        refine qr_aload_n 87 rfl g1417 rfl ?_
        refine qr_dup 88 rfl rfl rfl ?_
        refine qr_get 91 rfl rfl rfl (by decide) rfl ?_
        refine qy_vl (σ 86 10) ((hk1429).trans rfl) ?_
        refine qr_lconst 92 rfl rfl ?_
        refine qy_vl 1 rfl ?_
        refine qr_iload_n 93 rfl g1419 rfl ?_
        refine qr_lshl 94 rfl rfl ?_
        refine qy_canlE (fun v1442 hv1442 hev1442 => ?_)
        refine qr_lor 95 rfl rfl ?_
        refine qy_canlE (fun v1443 hv1443 hev1443 => ?_)
        refine qr_put 98 rfl (by decide) rfl (Nat.le_of_ble_eq_true rfl) (Nat.le_of_ble_eq_true rfl) (Or.inl rfl) (qr_fitL rfl _) rfl ?_
        refine qy_wS (qw_s σ1424 86 10 v1443) rfl (fun σ1444 e1445 => ?_)
        have hI1446 : qI σ1444 α1425 κ ρ := by rw [e1445]; exact qI_s hI1426 86 10 rfl (show (-9223372036854775808) ≤ v1443 ∧ v1443 ≤ 9223372036854775807 by omega)
        have hF1447 : qFr [(86, 4), (86, 5), (86, 10), (86, 50)] [87, 88, 89, 90, 115, 116] σ α σ1444 α1425 := by rw [e1445]; exact qFr_s hF1427 86 10 _ (by decide)
        refine qr_aload_n 99 rfl g1417 rfl ?_
        refine qr_get 102 rfl rfl rfl (by decide) rfl ?_
        refine qr_aload_n 103 rfl g1417 rfl ?_
        refine qr_get 106 rfl rfl rfl (by decide) rfl ?_
        refine qy_v (σ 86 50) ((congrFun (congrFun e1445 86) 50).trans ((hk1431).trans rfl)) ?_
        refine qr_iload_n 107 rfl g1418 rfl ?_
        refine qr_iastore 108 rfl (by decide) rfl (by omega) (by decide) rfl ?_
        refine qy_wA (qw_r α1425 115 (qzu (α1425 115) ((σ 86 50) : Int).toNat x1)) rfl (fun α1448 e1449 => ?_)
        have hI1450 : qI σ1444 α1448 κ ρ := by rw [e1449]; exact qI_r hI1446 115 _ rfl (show 0 ≤ x1 ∧ x1 ≤ 31 by omega)
        have hF1451 : qFr [(86, 4), (86, 5), (86, 10), (86, 50)] [87, 88, 89, 90, 115, 116] σ α σ1444 α1448 := by rw [e1449]; exact qFr_r hF1447 115 _ (by decide)
        refine qr_aload_n 109 rfl g1417 rfl ?_
        refine qr_get 112 rfl rfl rfl (by decide) rfl ?_
        refine qr_aload_n 113 rfl g1417 rfl ?_
        refine qr_get 116 rfl rfl rfl (by decide) rfl ?_
        refine qy_v (σ 86 50) ((congrFun (congrFun e1445 86) 50).trans ((hk1431).trans rfl)) ?_
        refine qr_iload_n 117 rfl g1419 rfl ?_
        refine qr_iastore 118 rfl (by decide) rfl (by omega) (by decide) rfl ?_
        refine qy_wA (qw_r α1448 116 (qzu (α1448 116) ((σ 86 50) : Int).toNat x2)) rfl (fun α1452 e1453 => ?_)
        have hI1454 : qI σ1444 α1452 κ ρ := by rw [e1453]; exact qI_r hI1450 116 _ rfl (show 0 ≤ x2 ∧ x2 ≤ 31 by omega)
        have hF1455 : qFr [(86, 4), (86, 5), (86, 10), (86, 50)] [87, 88, 89, 90, 115, 116] σ α σ1444 α1452 := by rw [e1453]; exact qFr_r hF1451 116 _ (by decide)
        refine qr_aload_n 119 rfl g1417 rfl ?_
        refine qr_dup 120 rfl rfl rfl ?_
        refine qr_get 123 rfl rfl rfl (by decide) rfl ?_
        refine qy_v (σ 86 50) ((congrFun (congrFun e1445 86) 50).trans ((hk1431).trans rfl)) ?_
        refine qr_iconst 124 rfl rfl ?_
        refine qr_iadd 125 rfl rfl ?_
        refine qr_put 128 rfl (by decide) rfl (Nat.le_of_ble_eq_true rfl) (Nat.le_of_ble_eq_true rfl) (Or.inl rfl) (qr_fitI rfl _) rfl ?_
        refine qy_wS (qw_s σ1444 86 50 ((σ 86 50) + 1)) rfl (fun σ1456 e1457 => ?_)
        have hI1458 : qI σ1456 α1452 κ ρ := by rw [e1457]; exact qI_s hI1454 86 50 rfl (show 0 ≤ ((σ 86 50) + 1) ∧ ((σ 86 50) + 1) ≤ 31 by omega)
        have hF1459 : qFr [(86, 4), (86, 5), (86, 10), (86, 50)] [87, 88, 89, 90, 115, 116] σ α σ1456 α1452 := by rw [e1457]; exact qFr_s hF1455 86 50 _ (by decide)
        refine qr_retV rfl rfl (by decide) (by decide) ?_
        exact ⟨_, _, rfl, hI1458, hF1459, (by have hw : σ1456 86 50 = ((σ 86 50) + 1) := (congrFun (congrFun e1457 86) 50).trans rfl; omega), rfl, (qTr_land (H := qHr σ A x3) (B := qBm σ A) (n := (σ 86 24 : Int).toNat) ⟨r1, r2⟩ (by omega) p8 (((congrFun e1453 115).trans ((qw_r_ne (by decide)).trans ((congrFun e1449 115).trans (qw_r_eq.trans (congrArg (fun f => qzu f ((σ 86 50) : Int).toNat x1) hk1432)))))) (((congrFun e1453 116).trans (qw_r_eq.trans (congrArg (fun f => qzu f ((σ 86 50) : Int).toNat x2) ((congrFun e1449 116).trans ((qw_r_ne (by decide)).trans hk1433)))))) ((congrFun (congrFun e1457 86) 50).trans rfl) ((congrFun (congrFun e1457 86) 6).trans ((congrFun (congrFun e1445 86) 6).trans ((hk1428).trans rfl))) (by have hw : σ1456 86 10 = v1443 := (congrFun (congrFun e1457 86) 10).trans ((congrFun (congrFun e1445 86) 10).trans rfl); rw [hw, ql_val hev1443 (by omega) (ql_or_r _ _), ql_val hev1442 (by omega) (ql_shl_r _ _)])), (by have hb := hx1435; show ((α1452 87, α1452 88, α1452 89, α1452 90, σ1456 86 5, σ1456 86 4) : qHS) = qkn (s.2.2.2 ++ qBr (qPk (qHr σ A x3 s.2.2.1 ((100 * x1 + x2) / 100) ((100 * x1 + x2) % 100)) (qBm σ A ((100 * x1 + x2) / 100))) (σ 86 24 : Int).toNat) h0; rw [show (100 * x1 + x2) / 100 = x1 by omega, show (100 * x1 + x2) % 100 = x2 by omega, show (σ 86 24 : Int).toNat = (u1423 : Int).toNat by rw [show σ 86 24 = u1423 by omega], show α1452 87 = (α1425 87) from ((congrFun e1453 87).trans ((qw_r_ne (by decide)).trans ((congrFun e1449 87).trans ((qw_r_ne (by decide)).trans rfl)))), show α1452 88 = (α1425 88) from ((congrFun e1453 88).trans ((qw_r_ne (by decide)).trans ((congrFun e1449 88).trans ((qw_r_ne (by decide)).trans rfl)))), show α1452 89 = (α1425 89) from ((congrFun e1453 89).trans ((qw_r_ne (by decide)).trans ((congrFun e1449 89).trans ((qw_r_ne (by decide)).trans rfl)))), show α1452 90 = (α1425 90) from ((congrFun e1453 90).trans ((qw_r_ne (by decide)).trans ((congrFun e1449 90).trans ((qw_r_ne (by decide)).trans rfl)))), show σ1456 86 5 = (σ1424 86 5) from (congrFun (congrFun e1457 86) 5).trans ((congrFun (congrFun e1445 86) 5).trans rfl), show σ1456 86 4 = (σ1424 86 4) from (congrFun (congrFun e1457 86) 4).trans ((congrFun (congrFun e1445 86) 4).trans rfl)]; exact hb), (by have hw : σ1456 86 10 = v1443 := (congrFun (congrFun e1457 86) 10).trans ((congrFun (congrFun e1445 86) 10).trans rfl); rw [hw, ql_val hev1443 (by omega) (ql_or_r _ _), ql_val hev1442 (by omega) (ql_shl_r _ _)])⟩
      · skip
        have hd1460 := qDd_of (h := h0) (qBk_land (P := (qPk (qHr σ A x3 s.2.2.1 x1 x2) (qBm σ A x1))) (n := (u1423 : Int).toNat) (by omega) p5) (congrArg (fun t : qHS => t.1) hx1435)
        rw [p6.1] at hd1460
        have hz1461 := qZk_d (σ := σ) (α := A) (σn := σ1424) (αn := α1425) (hF1427.1 86 24 (by decide)) (by omega) (show α1425 104 = A 104 by rw [hF1427.2 104 (by decide)]; exact p6.2.2.2.1) (show α1425 105 = A 105 by rw [hF1427.2 105 (by decide)]; exact p6.2.2.2.2.1) hd1460 p1
        refine qr_aload_n 13 rfl g1417 rfl ?_
        refine qr_iload 15 rfl g1422 rfl ?_
        refine qr_iload_n 16 rfl g1418 rfl ?_
        refine qr_iload_n 17 rfl g1419 rfl ?_
        refine qr_iload_n 18 rfl g1420 rfl ?_
        have hs1462 : 0 ≤ σ1424 86 24 ∧ σ1424 86 24 ≤ 60 := hI1426.1 86 24
        have hs1463 : σ1424 86 24 = (σ 86 24) := (hk1430).trans rfl
        have hs1464 : 0 ≤ σ1424 86 6 ∧ σ1424 86 6 ≤ 32 := hI1426.1 86 6
        have hs1465 : σ1424 86 6 = (σ 86 6) := (hk1428).trans rfl
        refine qr_callN 21 rfl rfl rfl (sf_205_86x (d := d + 0) hI1426 (by omega) r1 r2 r3 (by omega) (by have hw := hF1427.1 86 24 (by decide); omega) hz1461 (by have hw := hF1427.1 86 6 (by decide); omega)) ?_
        have hs1468 : (-9223372036854775808) ≤ σ1424 86 29 ∧ σ1424 86 29 ≤ 9223372036854775807 := hI1426.1 86 29
        rintro _ _ ⟨rfl, v1466, rfl, hv1466, hp1467⟩
        show qr_W (qe L xs vb) (d + 3) qx_e247 _ (21, _, [.int (qz v1466)], qw σ1424 α1425 κ ρ, 0, 0)
        have hh1469 := qdd_hold (σ := σ) (A := A) (αn := α1425) (m := A 87) (show α1425 102 = A 102 by rw [hF1427.2 102 (by decide)]; exact p6.2.1) (show α1425 103 = A 103 by rw [hF1427.2 103 (by decide)]; exact p6.2.2.1) (show α1425 104 = A 104 by rw [hF1427.2 104 (by decide)]; exact p6.2.2.2.1) (show α1425 105 = A 105 by rw [hF1427.2 105 (by decide)]; exact p6.2.2.2.2.1) (show α1425 91 = A 91 by rw [hF1427.2 91 (by decide)]; exact p6.2.2.2.2.2) hd1460 (by omega) (by omega) (by omega) ((hF1427.1 86 29 (by decide)).trans p4) hp1467
        refine qr_if_eq 80 24 rfl rfl rfl (qrg hv1466 (by decide) (by decide)) (fun h1470 => ?_) (fun h1470 => ?_)
        · skip
          refine qr_iinc _ 83 rfl g1422 (by decide) rfl rfl ?_
          refine qr_goto 3 rfl rfl ?_
          exact ih1438 _ (u1423 + 1) σ1424 α1425 (by omega) (qm_gk g1417 (by decide) (Or.inl (by decide))) (qm_gk g1418 (by decide) (Or.inl (by decide))) (qm_gk g1419 (by decide) (Or.inl (by decide))) (qm_gk g1420 (by decide) (Or.inl (by decide))) (qm_gk g1421 (by decide) (Or.inr rfl)) (qm_ge _ _ _) (by omega) hI1426 hF1427 ((hk1428).trans rfl) ((hk1429).trans rfl) ((hk1430).trans rfl) ((hk1431).trans rfl) hk1432 hk1433 ((hx1435).trans (qdd_list (by omega) (by have a1 := qPk_c (qHr σ A x3 s.2.2.1 x1 x2) (qBm σ A x1) (u1423 : Int).toNat; have a4 : (qBm σ A x1 (u1423 : Int).toNat = 1 ∧ (A 102 (u1423 : Int).toNat = x1 ∨ qcw (A 87) (u1423 : Int).toNat x1 = 1)) ∨ (qBm σ A x1 (u1423 : Int).toNat = 0 ∧ ¬ (A 102 (u1423 : Int).toNat = x1 ∨ qcw (A 87) (u1423 : Int).toNat x1 = 1)) := qbF_d (A 102) (qcw (A 87)) x1 (u1423 : Int).toNat; have a5 := hh1469; omega)).symm) (by omega)
        · skip
          refine qr_aload_n 25 rfl g1417 rfl ?_
          refine qr_get 28 rfl rfl rfl (by decide) rfl ?_
          refine qr_iload 30 rfl g1422 rfl ?_
          refine qr_iaload 31 rfl rfl (by omega) (by decide) rfl ?_
          refine qr_topI (fun v1471 hv1471 => ?_)
          have hs1472 : 0 ≤ v1471 ∧ v1471 ≤ 31 := by rw [hv1471]; exact hI1426.2.1 102 _ (show _ < 60 by omega)
          refine qr_iload_n 32 rfl g1418 rfl ?_
          refine qr_icmp_eq 45 35 rfl rfl rfl (qrg hs1472 (by decide) (by decide)) (qrg r1 (by decide) (by decide)) (fun h1473 => ?_) (fun h1473 => ?_)
          · skip
            refine qr_iload 47 rfl g1421 rfl ?_
            refine qr_if_eq 67 50 rfl rfl rfl (by decide) (fun h => False.elim (by omega)) (fun h1474 => ?_)
            refine qr_aload_n 51 rfl g1417 rfl ?_
            refine qr_sipush 54 rfl (by decide) rfl ?_
            refine qr_iload 56 rfl g1422 rfl ?_
            refine qr_iadd 57 rfl rfl ?_
            refine qr_bipush 59 rfl (by decide) rfl ?_
            refine qr_callN 62 rfl rfl rfl (sf_183_86x (d := d + 2) hI1426 (by omega) (by decide)) ?_
            rintro _ _ ⟨σ1478, α1479, rfl, hI1480, hG1481, v1475, rfl, hv1475, hp1476, hx1477⟩
            have hF1482 : qFr [(86, 4), (86, 5), (86, 10), (86, 50)] [87, 88, 89, 90, 115, 116] σ α σ1478 α1479 := qFr_t hF1427 hG1481 (by decide) (by decide)
            show qr_W (qe L xs vb) (d + 3) qx_e247 _ (62, _, [.int (qz v1475)], qw σ1478 α1479 κ ρ, 0, 0)
            refine qr_istore _ 64 rfl (by decide) rfl rfl ?_
            refine qr_goto 80 rfl rfl ?_
            refine qr_iinc _ 83 rfl (qm_gk g1422 (by decide) (Or.inr rfl)) (by decide) rfl rfl ?_
            refine qr_goto 3 rfl rfl ?_
            exact ih1438 _ (u1423 + 1) σ1478 α1479 (by omega) (qm_gk (qm_gk g1417 (by decide) (Or.inl (by decide))) (by decide) (Or.inl (by decide))) (qm_gk (qm_gk g1418 (by decide) (Or.inl (by decide))) (by decide) (Or.inl (by decide))) (qm_gk (qm_gk g1419 (by decide) (Or.inl (by decide))) (by decide) (Or.inl (by decide))) (qm_gk (qm_gk g1420 (by decide) (Or.inl (by decide))) (by decide) (Or.inl (by decide))) (qm_gk (qm_gk g1421 (by decide) (Or.inl (by decide))) (by decide) (Or.inr rfl)) (qm_ge _ _ _) (by omega) hI1480 hF1482 ((hG1481.1 86 6 (by decide)).trans ((hk1428).trans rfl)) ((hG1481.1 86 10 (by decide)).trans ((hk1429).trans rfl)) ((hG1481.1 86 24 (by decide)).trans ((hk1430).trans rfl)) ((hG1481.1 86 50 (by decide)).trans ((hk1431).trans rfl)) ((hG1481.2 115 (by decide)).trans hk1432) ((hG1481.2 116 (by decide)).trans hk1433) ((qdd_tup hx1477).trans (by rw [hx1435]; exact (qdd_lis2 (by omega) (by have a1 := qPk_c (qHr σ A x3 s.2.2.1 x1 x2) (qBm σ A x1) (u1423 : Int).toNat; have a4 : (qBm σ A x1 (u1423 : Int).toNat = 1 ∧ (A 102 (u1423 : Int).toNat = x1 ∨ qcw (A 87) (u1423 : Int).toNat x1 = 1)) ∨ (qBm σ A x1 (u1423 : Int).toNat = 0 ∧ ¬ (A 102 (u1423 : Int).toNat = x1 ∨ qcw (A 87) (u1423 : Int).toNat x1 = 1)) := qbF_d (A 102) (qcw (A 87)) x1 (u1423 : Int).toNat; have a5 := hh1469; have a6 : v1471 = A 102 (u1423 : Int).toNat := (by rw [hv1471]; exact congrFun (show α1425 102 = A 102 by rw [hF1427.2 102 (by decide)]; exact p6.2.1) _); omega)).symm)) (by omega)
          · skip
            refine qr_aload_n 36 rfl g1417 rfl ?_
            refine qr_iload 38 rfl g1422 rfl ?_
            refine qr_iload_n 39 rfl g1418 rfl ?_
            refine qr_callN 42 rfl rfl rfl (sf_202_86x (d := d + 2) hI1426 (by omega) r1) ?_
            rintro _ _ ⟨rfl, v1483, rfl, hv1483, hp1484⟩
            show qr_W (qe L xs vb) (d + 3) qx_e247 _ (42, _, [.int (qz v1483)], qw σ1424 α1425 κ ρ, 0, 0)
            have hc1485 := hp1484
            rw [qDd_cw hd1460 (by omega) (by omega)] at hc1485
            refine qr_if_eq 80 45 rfl rfl rfl (qrg hv1483 (by decide) (by decide)) (fun h1486 => ?_) (fun h1486 => ?_)
            · skip
              refine qr_iinc _ 83 rfl g1422 (by decide) rfl rfl ?_
              refine qr_goto 3 rfl rfl ?_
              exact ih1438 _ (u1423 + 1) σ1424 α1425 (by omega) (qm_gk g1417 (by decide) (Or.inl (by decide))) (qm_gk g1418 (by decide) (Or.inl (by decide))) (qm_gk g1419 (by decide) (Or.inl (by decide))) (qm_gk g1420 (by decide) (Or.inl (by decide))) (qm_gk g1421 (by decide) (Or.inr rfl)) (qm_ge _ _ _) (by omega) hI1426 hF1427 ((hk1428).trans rfl) ((hk1429).trans rfl) ((hk1430).trans rfl) ((hk1431).trans rfl) hk1432 hk1433 ((hx1435).trans (qdd_list (by omega) (by have a1 := qPk_c (qHr σ A x3 s.2.2.1 x1 x2) (qBm σ A x1) (u1423 : Int).toNat; have a4 : (qBm σ A x1 (u1423 : Int).toNat = 1 ∧ (A 102 (u1423 : Int).toNat = x1 ∨ qcw (A 87) (u1423 : Int).toNat x1 = 1)) ∨ (qBm σ A x1 (u1423 : Int).toNat = 0 ∧ ¬ (A 102 (u1423 : Int).toNat = x1 ∨ qcw (A 87) (u1423 : Int).toNat x1 = 1)) := qbF_d (A 102) (qcw (A 87)) x1 (u1423 : Int).toNat; have a5 := hh1469; have a6 : v1471 = A 102 (u1423 : Int).toNat := (by rw [hv1471]; exact congrFun (show α1425 102 = A 102 by rw [hF1427.2 102 (by decide)]; exact p6.2.1) _); have a7 := hc1485; omega)).symm) (by omega)
            · skip
              refine qr_iload 47 rfl g1421 rfl ?_
              refine qr_if_eq 67 50 rfl rfl rfl (by decide) (fun h => False.elim (by omega)) (fun h1487 => ?_)
              refine qr_aload_n 51 rfl g1417 rfl ?_
              refine qr_sipush 54 rfl (by decide) rfl ?_
              refine qr_iload 56 rfl g1422 rfl ?_
              refine qr_iadd 57 rfl rfl ?_
              refine qr_bipush 59 rfl (by decide) rfl ?_
              refine qr_callN 62 rfl rfl rfl (sf_183_86x (d := d + 2) hI1426 (by omega) (by decide)) ?_
              rintro _ _ ⟨σ1491, α1492, rfl, hI1493, hG1494, v1488, rfl, hv1488, hp1489, hx1490⟩
              have hF1495 : qFr [(86, 4), (86, 5), (86, 10), (86, 50)] [87, 88, 89, 90, 115, 116] σ α σ1491 α1492 := qFr_t hF1427 hG1494 (by decide) (by decide)
              show qr_W (qe L xs vb) (d + 3) qx_e247 _ (62, _, [.int (qz v1488)], qw σ1491 α1492 κ ρ, 0, 0)
              refine qr_istore _ 64 rfl (by decide) rfl rfl ?_
              refine qr_goto 80 rfl rfl ?_
              refine qr_iinc _ 83 rfl (qm_gk g1422 (by decide) (Or.inr rfl)) (by decide) rfl rfl ?_
              refine qr_goto 3 rfl rfl ?_
              exact ih1438 _ (u1423 + 1) σ1491 α1492 (by omega) (qm_gk (qm_gk g1417 (by decide) (Or.inl (by decide))) (by decide) (Or.inl (by decide))) (qm_gk (qm_gk g1418 (by decide) (Or.inl (by decide))) (by decide) (Or.inl (by decide))) (qm_gk (qm_gk g1419 (by decide) (Or.inl (by decide))) (by decide) (Or.inl (by decide))) (qm_gk (qm_gk g1420 (by decide) (Or.inl (by decide))) (by decide) (Or.inl (by decide))) (qm_gk (qm_gk g1421 (by decide) (Or.inl (by decide))) (by decide) (Or.inr rfl)) (qm_ge _ _ _) (by omega) hI1493 hF1495 ((hG1494.1 86 6 (by decide)).trans ((hk1428).trans rfl)) ((hG1494.1 86 10 (by decide)).trans ((hk1429).trans rfl)) ((hG1494.1 86 24 (by decide)).trans ((hk1430).trans rfl)) ((hG1494.1 86 50 (by decide)).trans ((hk1431).trans rfl)) ((hG1494.2 115 (by decide)).trans hk1432) ((hG1494.2 116 (by decide)).trans hk1433) ((qdd_tup hx1490).trans (by rw [hx1435]; exact (qdd_lis2 (by omega) (by have a1 := qPk_c (qHr σ A x3 s.2.2.1 x1 x2) (qBm σ A x1) (u1423 : Int).toNat; have a4 : (qBm σ A x1 (u1423 : Int).toNat = 1 ∧ (A 102 (u1423 : Int).toNat = x1 ∨ qcw (A 87) (u1423 : Int).toNat x1 = 1)) ∨ (qBm σ A x1 (u1423 : Int).toNat = 0 ∧ ¬ (A 102 (u1423 : Int).toNat = x1 ∨ qcw (A 87) (u1423 : Int).toNat x1 = 1)) := qbF_d (A 102) (qcw (A 87)) x1 (u1423 : Int).toNat; have a5 := hh1469; have a6 : v1471 = A 102 (u1423 : Int).toNat := (by rw [hv1471]; exact congrFun (show α1425 102 = A 102 by rw [hF1427.2 102 (by decide)]; exact p6.2.1) _); have a7 := hc1485; omega)).symm)) (by omega)
  exact hL1437 ((60 - 0 + 1 : Int)).toNat _ 0 σ α (by omega) rfl rfl rfl rfl rfl rfl (by decide) hI hF0 (rfl) (rfl) (rfl) (rfl) rfl rfl (by rw [show qBr (qPk (qHr σ A x3 s.2.2.1 x1 x2) (qBm σ A x1)) (0 : Int).toNat = [] from rfl, List.append_nil]; exact p7) (by omega)

set_option maxHeartbeats 4000000 in
set_option maxRecDepth 20000 in
/-- OneRoofModel.goesOn -/
theorem sf_246_86x1 {L : Nat} {xs : Nat → Int} {vb : Bool} {d : Nat} {σ α : Nat → Nat → Int} {κ : Nat → Option Nat} {ρ : Nat} {x1 : Int} {x2 : Int} {x3 : Int} {g0 g1 : (Nat → Int) → Int} (hI : qI σ α κ ρ) (r1 : 0 ≤ x1 ∧ x1 ≤ 3131) (r2 : (-9223372036854775808) ≤ x2 ∧ x2 ≤ 9223372036854775807) (r3 : (-2147483648) ≤ x3 ∧ x3 ≤ 2147483647) (p0 : 1 ≤ σ 86 6) (p1 : x1 / 100 < σ 86 6 ∧ x1 % 100 < σ 86 6 ∧ ¬ x1 / 100 = x1 % 100) (p2 : qPG σ α 0 g0) (p3 : qPG σ α 1 g1) (p4 : qZf σ α) (p5 : qZk σ α) (p6 : σ 86 29 = 0) (p7 : σ 86 41 = 0) (p8 : qbit x2 (x1 % 100) = 1) : qm_T (qe L xs vb) (d + 49) 246 [.ref 86, .int (qz x1), .long (ql x2), .int (qz x3), .int (qz 1)] (qw σ α κ ρ) (fun r w' => ∃ σ' α', w' = qw σ' α' κ ρ ∧ qI σ' α' κ ρ ∧ qFr [(86, 4), (86, 5), (86, 10), (86, 15), (86, 23), (86, 30), (86, 35), (86, 36), (86, 37), (86, 38), (86, 39), (86, 50), (86, 51)] [87, 88, 89, 90, 96, 109, 115, 116] σ α σ' α' ∧ r = none ∧ qTr σ' α' x2 (qtell (qHr σ α x3) (qBm σ α) (σ 86 24 : Int).toNat (qWr σ α g0 g1 x3) (σ 86 6) 30 (qland (qHr σ α x3) (qBm σ α) (σ 86 24 : Int).toNat ([], ql_and x2 (ql_xor (σ 86 10) (-1)), 0, []) x1)) ∧ σ' 86 51 = ((qtell (qHr σ α x3) (qBm σ α) (σ 86 24 : Int).toNat (qWr σ α g0 g1 x3) (σ 86 6) 30 (qland (qHr σ α x3) (qBm σ α) (σ 86 24 : Int).toNat ([], ql_and x2 (ql_xor (σ 86 10) (-1)), 0, []) x1))).2.1 ∧ ((α' 87, α' 88, α' 89, α' 90, σ' 86 5, σ' 86 4) : qHS) = qkn ((qtell (qHr σ α x3) (qBm σ α) (σ 86 24 : Int).toNat (qWr σ α g0 g1 x3) (σ 86 6) 30 (qland (qHr σ α x3) (qBm σ α) (σ 86 24 : Int).toNat ([], ql_and x2 (ql_xor (σ 86 10) (-1)), 0, []) x1))).2.2.2 ((α 87, α 88, α 89, α 90, σ 86 5, σ 86 4) : qHS) ∧ qDe (σ 86 10) (σ' 86 10) x2) := by
  refine qr_start (d := d + 48) qv_e246 (Nat.le_of_ble_eq_true rfl) ?_
  show qr_W (qe L xs vb) (d + 48) qx_e246 _ (0, [(0, .ref 86), (1, .int (qz x1)), (2, .long (ql x2)), (4, .int (qz x3)), (5, .int (qz 1))], [], _, 0, 0)
  have hF0 := qFr_rf [(86, 4), (86, 5), (86, 10), (86, 15), (86, 23), (86, 30), (86, 35), (86, 36), (86, 37), (86, 38), (86, 39), (86, 50), (86, 51)] [87, 88, 89, 90, 96, 109, 115, 116] σ α
  have hz86_6 : 0 ≤ σ 86 6 ∧ σ 86 6 ≤ 32 := hI.1 86 6
  have hz86_29 : (-9223372036854775808) ≤ σ 86 29 ∧ σ 86 29 ≤ 9223372036854775807 := hI.1 86 29
  have hz86_41 : 0 ≤ σ 86 41 ∧ σ 86 41 ≤ 1 := hI.1 86 41
  have hz86_4 : 0 ≤ σ 86 4 ∧ σ 86 4 ≤ 40 := hI.1 86 4
  have hz86_5 : 0 ≤ σ 86 5 ∧ σ 86 5 ≤ 40 := hI.1 86 5
  have hz86_10 : (-9223372036854775808) ≤ σ 86 10 ∧ σ 86 10 ≤ 9223372036854775807 := hI.1 86 10
  have hz86_16 : 0 ≤ σ 86 16 ∧ σ 86 16 ≤ 40 := hI.1 86 16
  have hz86_24 : 0 ≤ σ 86 24 ∧ σ 86 24 ≤ 60 := hI.1 86 24
  have hz86_50 : 0 ≤ σ 86 50 ∧ σ 86 50 ≤ 31 := hI.1 86 50
  refine qr_aload_n 1 rfl rfl rfl ?_
  refine qr_iconst 2 rfl rfl ?_
  refine qr_put 5 rfl (by decide) rfl (Nat.le_of_ble_eq_true rfl) (Nat.le_of_ble_eq_true rfl) (Or.inl rfl) (qr_fitI rfl _) rfl ?_
  refine qy_wS (qw_s σ 86 50 0) rfl (fun σ1 e2 => ?_)
  have hI3 : qI σ1 α κ ρ := by rw [e2]; exact qI_s hI 86 50 rfl (show 0 ≤ 0 ∧ 0 ≤ 31 by omega)
  have hF4 : qFr [(86, 4), (86, 5), (86, 10), (86, 15), (86, 23), (86, 30), (86, 35), (86, 36), (86, 37), (86, 38), (86, 39), (86, 50), (86, 51)] [87, 88, 89, 90, 96, 109, 115, 116] σ α σ1 α := by rw [e2]; exact qFr_s hF0 86 50 _ (by decide)
  refine qr_iload_n 6 rfl rfl rfl ?_
  refine qr_istore _ 8 rfl (by decide) rfl rfl ?_
  have hL341 : ∀ (n : Nat) (ls : qm_L) (u329 : Int) (σ330 α331 : Nat → Nat → Int), ((31 - σ330 86 50).toNat : Int) < (n : Int) → qm_get ls 0 = some (.ref 86) → qm_get ls 2 = some (.long (ql x2)) → qm_get ls 4 = some (.int (qz x3)) → qm_get ls 5 = some (.int (qz 1)) → qm_get ls 6 = some (.int (qz u329)) → ((-1) ≤ u329 ∧ u329 ≤ 3131) → qI σ330 α331 κ ρ → qFr [(86, 4), (86, 5), (86, 10), (86, 15), (86, 23), (86, 30), (86, 35), (86, 36), (86, 37), (86, 38), (86, 39), (86, 50), (86, 51)] [87, 88, 89, 90, 96, 109, 115, 116] σ α σ330 α331 → σ330 86 6 = (σ 86 6) → σ330 86 16 = (σ 86 16) → σ330 86 24 = (σ 86 24) → σ330 86 41 = (σ 86 41) → (∃ s : qTS, qDe (σ 86 10) (σ330 86 10) x2 ∧ (u329 < 0 ∨ qbit x2 (u329 % 100) = 1) ∧ qTr σ330 α331 x2 s ∧ qBk s.2.2.1 s.2.2.2 ∧ ((α331 87, α331 88, α331 89, α331 90, σ330 86 5, σ330 86 4) : qHS) = qkn s.2.2.2 ((α 87, α 88, α 89, α 90, σ 86 5, σ 86 4) : qHS) ∧ ((u329 < 0 ∧ s = (qtell (qHr σ α x3) (qBm σ α) (σ 86 24 : Int).toNat (qWr σ α g0 g1 x3) (σ 86 6) 30 (qland (qHr σ α x3) (qBm σ α) (σ 86 24 : Int).toNat ([], ql_and x2 (ql_xor (σ 86 10) (-1)), 0, []) x1))) ∨ (0 ≤ u329 ∧ qtell (qHr σ α x3) (qBm σ α) (σ 86 24 : Int).toNat (qWr σ α g0 g1 x3) (σ 86 6) (30 - σ330 86 50 : Int).toNat (qland (qHr σ α x3) (qBm σ α) (σ 86 24 : Int).toNat s u329) = (qtell (qHr σ α x3) (qBm σ α) (σ 86 24 : Int).toNat (qWr σ α g0 g1 x3) (σ 86 6) 30 (qland (qHr σ α x3) (qBm σ α) (σ 86 24 : Int).toNat ([], ql_and x2 (ql_xor (σ 86 10) (-1)), 0, []) x1))))) → (u329 = -1 ∨ (0 ≤ u329 ∧ u329 / 100 < σ 86 6 ∧ u329 % 100 < σ 86 6 ∧ ¬ u329 / 100 = u329 % 100 ∧ σ330 86 50 ≤ 30)) → qr_W (qe L xs vb) (d + 48) qx_e246 (fun r w' => ∃ σ' α', w' = qw σ' α' κ ρ ∧ qI σ' α' κ ρ ∧ qFr [(86, 4), (86, 5), (86, 10), (86, 15), (86, 23), (86, 30), (86, 35), (86, 36), (86, 37), (86, 38), (86, 39), (86, 50), (86, 51)] [87, 88, 89, 90, 96, 109, 115, 116] σ α σ' α' ∧ r = none ∧ qTr σ' α' x2 (qtell (qHr σ α x3) (qBm σ α) (σ 86 24 : Int).toNat (qWr σ α g0 g1 x3) (σ 86 6) 30 (qland (qHr σ α x3) (qBm σ α) (σ 86 24 : Int).toNat ([], ql_and x2 (ql_xor (σ 86 10) (-1)), 0, []) x1)) ∧ σ' 86 51 = ((qtell (qHr σ α x3) (qBm σ α) (σ 86 24 : Int).toNat (qWr σ α g0 g1 x3) (σ 86 6) 30 (qland (qHr σ α x3) (qBm σ α) (σ 86 24 : Int).toNat ([], ql_and x2 (ql_xor (σ 86 10) (-1)), 0, []) x1))).2.1 ∧ ((α' 87, α' 88, α' 89, α' 90, σ' 86 5, σ' 86 4) : qHS) = qkn ((qtell (qHr σ α x3) (qBm σ α) (σ 86 24 : Int).toNat (qWr σ α g0 g1 x3) (σ 86 6) 30 (qland (qHr σ α x3) (qBm σ α) (σ 86 24 : Int).toNat ([], ql_and x2 (ql_xor (σ 86 10) (-1)), 0, []) x1))).2.2.2 ((α 87, α 88, α 89, α 90, σ 86 5, σ 86 4) : qHS) ∧ qDe (σ 86 10) (σ' 86 10) x2) (8, ls, [], qw σ330 α331 κ ρ, 0, 0) := by
    intro n
    induction n with
    | zero => intro ls u329 σ330 α331 hm g324 g325 g326 g327 g328 hf338 hI332 hF333 hk334 hk335 hk336 hk337 hx339 hx340; exact False.elim (by omega)
    | succ n ih342 =>
      intro ls u329 σ330 α331 hm g324 g325 g326 g327 g328 hf338 hI332 hF333 hk334 hk335 hk336 hk337 hx339 hx340
      have hs343 : 0 ≤ σ330 86 50 ∧ σ330 86 50 ≤ 31 := hI332.1 86 50
      obtain ⟨s344, hd349, hd350, ht345, ht346, ht347, ht348⟩ := hx339
      refine qr_iload 10 rfl g328 rfl ?_
      refine qr_if_lt 56 13 rfl rfl rfl (qrg hf338 (by decide) (by decide)) (fun h351 => ?_) (fun h351 => ?_)
      · skip
        have ht352 := qgo_e ht348 (by omega)
        refine qr_aload_n 57 rfl g324 rfl ?_
        refine qr_lload_n 58 rfl g325 rfl ?_
        refine qr_aload_n 59 rfl g324 rfl ?_
        refine qr_get 62 rfl rfl rfl (by decide) rfl ?_
        have hs353 : (-9223372036854775808) ≤ σ330 86 10 ∧ σ330 86 10 ≤ 9223372036854775807 := hI332.1 86 10
        refine qr_ldc2 (-1) 65 rfl (by decide) rfl ?_
        refine qr_lxor 66 rfl rfl ?_
        refine qy_canlE (fun v354 hv354 hev354 => ?_)
        refine qr_land 67 rfl rfl ?_
        refine qy_canlE (fun v355 hv355 hev355 => ?_)
        refine qr_put 70 rfl (by decide) rfl (Nat.le_of_ble_eq_true rfl) (Nat.le_of_ble_eq_true rfl) (Or.inl rfl) (qr_fitL rfl _) rfl ?_
        refine qy_wS (qw_s σ330 86 51 v355) rfl (fun σ356 e357 => ?_)
        have hI358 : qI σ356 α331 κ ρ := by rw [e357]; exact qI_s hI332 86 51 rfl (show (-9223372036854775808) ≤ v355 ∧ v355 ≤ 9223372036854775807 by omega)
        have hF359 : qFr [(86, 4), (86, 5), (86, 10), (86, 15), (86, 23), (86, 30), (86, 35), (86, 36), (86, 37), (86, 38), (86, 39), (86, 50), (86, 51)] [87, 88, 89, 90, 96, 109, 115, 116] σ α σ356 α331 := by rw [e357]; exact qFr_s hF333 86 51 _ (by decide)
        have hk360 : σ356 86 50 = σ330 86 50 := (congrFun (congrFun e357 86) 50)
        have hk361 : σ356 86 6 = σ330 86 6 := (congrFun (congrFun e357 86) 6)
        have hk362 : σ356 86 10 = σ330 86 10 := (congrFun (congrFun e357 86) 10)
        refine qr_retV rfl rfl (by decide) (by decide) ?_
        exact ⟨_, _, rfl, hI358, hF359, rfl, (by rw [← ht352]; exact qTr_c (rfl) (rfl) (hk360) (hk361) (hk362) ht345), (by rw [← ht352, show σ356 86 51 = v355 from (congrFun (congrFun e357 86) 51).trans rfl, ql_val hev355 (by omega) (ql_and_r _ _), ql_val hev354 (by omega) (ql_xor_r _ _)]; exact ht345.2), (by rw [← ht352, show σ356 86 5 = σ330 86 5 from (congrFun (congrFun e357 86) 5), show σ356 86 4 = σ330 86 4 from (congrFun (congrFun e357 86) 4)]; exact ht347), (by rw [show σ356 86 10 = σ330 86 10 from (congrFun (congrFun e357 86) 10)]; exact hd349)⟩
      · skip
        have ht363 := qgo_u ht348 (by omega)
        refine qr_aload_n 14 rfl g324 rfl ?_
        refine qr_iload 16 rfl g328 rfl ?_
        refine qr_bipush 18 rfl (by decide) rfl ?_
        refine qr_idiv 19 rfl (by omega) (by decide) rfl ?_
        refine qr_iload 21 rfl g328 rfl ?_
        refine qr_bipush 23 rfl (by decide) rfl ?_
        refine qr_irem 24 rfl (by omega) (by decide) rfl ?_
        refine qr_iload 26 rfl g326 rfl ?_
        refine qr_iload 28 rfl g327 rfl ?_
        have hs364 : (-9223372036854775808) ≤ σ330 86 29 ∧ σ330 86 29 ≤ 9223372036854775807 := hI332.1 86 29
        have hs365 : 0 ≤ σ330 86 4 ∧ σ330 86 4 ≤ 40 := hI332.1 86 4
        have hs366 : 0 ≤ σ330 86 5 ∧ σ330 86 5 ≤ 40 := hI332.1 86 5
        have hs367 : 0 ≤ σ330 86 50 ∧ σ330 86 50 ≤ 31 := hI332.1 86 50
        have hs368 : 0 ≤ σ330 86 6 ∧ σ330 86 6 ≤ 32 := hI332.1 86 6
        have hs369 : σ330 86 6 = (σ 86 6) := (hk334).trans rfl
        refine qr_callN 31 rfl rfl rfl (sf_247_86x1 (d := d + 44) hI332 (by omega) (by omega) r3 (by omega) (fun k hk => p5 k (by have hw := hF333.1 86 24 (by decide); omega)) (by have hw := hF333.1 86 6 (by decide); omega) (by omega) ((hF333.1 86 29 (by decide)).trans p6) ht346 ⟨rfl, hF333.2 102 (by decide), hF333.2 103 (by decide), hF333.2 104 (by decide), hF333.2 105 (by decide), hF333.2 91 (by decide)⟩ ht347 ht345) ?_
        rintro _ _ ⟨σ374, α375, rfl, hI376, hG377, hw373, rfl, hx370, hx371, hx372⟩
        have hF378 : qFr [(86, 4), (86, 5), (86, 10), (86, 15), (86, 23), (86, 30), (86, 35), (86, 36), (86, 37), (86, 38), (86, 39), (86, 50), (86, 51)] [87, 88, 89, 90, 96, 109, 115, 116] σ α σ374 α375 := qFr_t hF333 hG377 (by decide) (by decide)
        have hs379 : 0 ≤ σ374 86 50 ∧ σ374 86 50 ≤ 31 := hI376.1 86 50
        show qr_W (qe L xs vb) (d + 48) qx_e246 _ (31, _, [], qw σ374 α375 κ ρ, 0, 0)
        rw [show qHr σ330 α x3 = qHr σ α x3 from rfl, show qBm σ330 α = qBm σ α from rfl, hF333.1 86 24 (by decide)] at hx370
        rw [show qHr σ330 α x3 = qHr σ α x3 from rfl, show qBm σ330 α = qBm σ α from rfl, hF333.1 86 24 (by decide)] at hx371
        rw [show 100 * (u329 / 100) + u329 % 100 = u329 by omega] at hx370
        rw [show 100 * (u329 / 100) + u329 % 100 = u329 by omega] at hx371
        have hc380 : σ374 86 50 = σ330 86 50 + 1 := hw373
        have ht381 : qBk (qland (qHr σ α x3) (qBm σ α) (σ 86 24 : Int).toNat s344 u329).2.2.1 (qland (qHr σ α x3) (qBm σ α) (σ 86 24 : Int).toNat s344 u329).2.2.2 := qBk_land (by omega) ht346
        have hd382 := qDe_s (by omega) (by rcases hd350 with hw | hw; (omega); (exact hw)) hd349 hx372
        refine qr_aload_n 32 rfl g324 rfl ?_
        refine qr_get 35 rfl rfl rfl (by decide) rfl ?_
        refine qr_bipush 37 rfl (by decide) rfl ?_
        refine qr_icmp_ne 44 40 rfl rfl rfl (by omega) (by decide) (fun h383 => ?_) (fun h383 => ?_)
        · skip
          refine qr_aload_n 45 rfl g324 rfl ?_
          refine qr_lload_n 46 rfl g325 rfl ?_
          refine qr_iload 48 rfl g326 rfl ?_
          have hd384 := qDd_of (h := ((α 87, α 88, α 89, α 90, σ 86 5, σ 86 4) : qHS)) ht381 (congrArg (fun t : qHS => t.1) hx371)
          have hz385 := qZk_d (σ := σ) (α := α) (σn := σ374) (αn := α375) (hF378.1 86 24 (by decide)) (by omega) (hF378.2 104 (by decide)) (hF378.2 105 (by decide)) hd384 p5
          have hs386 : 0 ≤ σ374 86 50 ∧ σ374 86 50 ≤ 31 := hI376.1 86 50
          have hs387 : 0 ≤ σ374 86 6 ∧ σ374 86 6 ≤ 32 := hI376.1 86 6
          have hs388 : σ374 86 6 = (σ 86 6) := (hG377.1 86 6 (by decide)).trans ((hk334).trans rfl)
          refine qr_callN 51 rfl rfl rfl (sf_248_86x (d := d + 0) hI376 r2 r3 (qPG_fr hF378 (by decide) (by decide) p2) (qPG_fr hF378 (by decide) (by decide) p3) (qZf_fr hF378 (by decide) (by decide) p4) hz385 (qTr_on hx370)) ?_
          rintro _ _ ⟨σ392, α393, rfl, hI394, hG395, v389, rfl, hv389, hp390, hx391⟩
          have hF396 : qFr [(86, 4), (86, 5), (86, 10), (86, 15), (86, 23), (86, 30), (86, 35), (86, 36), (86, 37), (86, 38), (86, 39), (86, 50), (86, 51)] [87, 88, 89, 90, 96, 109, 115, 116] σ α σ392 α393 := qFr_t hF378 hG395 (by decide) (by decide)
          show qr_W (qe L xs vb) (d + 48) qx_e246 _ (51, _, [.int (qz v389)], qw σ392 α393 κ ρ, 0, 0)
          rw [hF378.1 86 6 (by decide)] at hx391
          have hq397 := qtr_n (σ := σ) (α := α) hx370 (fun p q x k1 k2 k3 k4 => by rw [show σ374 86 29 = 0 from (hF378.1 86 29 (by decide)).trans p6, qNVr_d (fun x hx => hF378.2 x ((by decide : ∀ x, x ∈ [91, 94, 95, 97, 98, 99, 100, 102, 103, 104, 105] → ¬ x ∈ [87, 88, 89, 90, 96, 109, 115, 116]) x hx)) (hF378.1 86 6 (by decide)) (hF378.1 86 11 (by decide)) (hF378.1 86 16 (by decide)) (hF378.1 86 22 (by decide)) (hF378.1 86 24 (by decide)) (hF378.1 86 41 (by decide)) (by omega) (by omega) hd384 ⟨k1, by omega⟩ ⟨k3, by omega⟩, qNVr_t p7 (by omega), hx370.2]) (by omega) hx391
          have hq398 := qtr_r (by omega) hx391
          have hq399 := qTr_c (hG395.2 115 (by decide)) (hG395.2 116 (by decide)) (hG395.1 86 50 (by decide)) (hG395.1 86 6 (by decide)) (hG395.1 86 10 (by decide)) hx370
          have hq400 : ((α393 87, α393 88, α393 89, α393 90, σ392 86 5, σ392 86 4) : qHS) = qkn _ _ := (by rw [hG395.2 87 (by decide), hG395.2 88 (by decide), hG395.2 89 (by decide), hG395.2 90 (by decide), hG395.1 86 5 (by decide), hG395.1 86 4 (by decide)]; exact hx371)
          have hq401 := hG395.1 86 50 (by decide)
          have hd402 := hd382
          rw [← hG395.1 86 10 (by decide)] at hd402
          have hd403 := qtr_x (by omega) (by omega) hx391
          refine qr_istore _ 53 rfl (by decide) rfl rfl ?_
          refine qr_goto 8 rfl rfl ?_
          exact ih342 _ v389 σ392 α393 (by have hw0 : σ392 86 50 = (σ374 86 50) := (hG395.1 86 50 (by decide)).trans rfl; omega) (qm_gk g324 (by decide) (Or.inl (by decide))) (qm_gk g325 (by decide) (Or.inl (by decide))) (qm_gk g326 (by decide) (Or.inl (by decide))) (qm_gk g327 (by decide) (Or.inr rfl)) (qm_ge _ _ _) hv389 hI394 hF396 ((hG395.1 86 6 (by decide)).trans ((hG377.1 86 6 (by decide)).trans ((hk334).trans rfl))) ((hG395.1 86 16 (by decide)).trans ((hG377.1 86 16 (by decide)).trans ((hk335).trans rfl))) ((hG395.1 86 24 (by decide)).trans ((hG377.1 86 24 (by decide)).trans ((hk336).trans rfl))) ((hG395.1 86 41 (by decide)).trans ((hG377.1 86 41 (by decide)).trans ((hk337).trans rfl))) ⟨_, hd402, hd403, hq399, ht381, hq400, qgo_b (by omega) (by omega) hq397 ht363⟩ (by have hr := hq398; omega)
        · skip
          refine qr_iconst 41 rfl rfl ?_
          refine qr_goto 51 rfl rfl ?_
          refine qr_istore _ 53 rfl (by decide) rfl rfl ?_
          refine qr_goto 8 rfl rfl ?_
          exact ih342 _ (-1) σ374 α375 (by have hw0 : σ374 86 50 = (σ374 86 50) := rfl; omega) (qm_gk g324 (by decide) (Or.inl (by decide))) (qm_gk g325 (by decide) (Or.inl (by decide))) (qm_gk g326 (by decide) (Or.inl (by decide))) (qm_gk g327 (by decide) (Or.inr rfl)) (qm_ge _ _ _) (by decide) hI376 hF378 ((hG377.1 86 6 (by decide)).trans ((hk334).trans rfl)) ((hG377.1 86 16 (by decide)).trans ((hk335).trans rfl)) ((hG377.1 86 24 (by decide)).trans ((hk336).trans rfl)) ((hG377.1 86 41 (by decide)).trans ((hk337).trans rfl)) ⟨_, hd382, Or.inl (by omega), hx370, ht381, hx371, Or.inl ⟨by omega, qgo_a (by omega) ht363⟩⟩ (Or.inl rfl)
  exact hL341 ((((31 - σ1 86 50).toNat : Int) + 1 : Int)).toNat _ x1 σ1 α (by have hw0 : σ1 86 50 = 0 := (congrFun (congrFun e2 86) 50).trans rfl; omega) rfl rfl rfl rfl rfl (qrg r1 (by decide) (by decide)) hI3 hF4 ((congrFun (congrFun e2 86) 6).trans rfl) ((congrFun (congrFun e2 86) 16).trans rfl) ((congrFun (congrFun e2 86) 24).trans rfl) ((congrFun (congrFun e2 86) 41).trans rfl) ⟨_, (by rw [show σ1 86 10 = σ 86 10 from (congrFun (congrFun e2 86) 10).trans rfl]; exact qDe_0 _ _), Or.inr p8, qTr_0 ((congrFun (congrFun e2 86) 50).trans rfl) ((congrFun (congrFun e2 86) 10).trans rfl), qBk_0, (by rw [show σ1 86 5 = σ 86 5 from (congrFun (congrFun e2 86) 5).trans rfl, show σ1 86 4 = σ 86 4 from (congrFun (congrFun e2 86) 4).trans rfl]; rfl), Or.inr ⟨by omega, by rw [show σ1 86 50 = 0 from (congrFun (congrFun e2 86) 50).trans rfl]; rfl⟩⟩ (by have hw : σ1 86 50 = 0 := (congrFun (congrFun e2 86) 50).trans rfl; omega)
end
