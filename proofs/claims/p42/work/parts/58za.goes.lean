noncomputable def qHr (_ α : Nat → Nat → Int) (h b p q : Int) : Nat → Int := qhG b (qhF (qsh (α 87) 192) (α 102) (α 103) (qun (α 104) (α 105) (qsh (α 87) 192)) (qcw (α 87)) (qll (α 91)) p q h)
theorem qHr_fr {S : List (Nat × Nat)} {R : List Nat} {σ α σ' α' : Nat → Nat → Int} (hG : qFr S R σ α σ' α') (hr : [87, 91, 102, 103, 104, 105].all (fun x => !R.contains x) = true) : qHr σ' α' = qHr σ α := by
  have er : ∀ a, a ∈ [87, 91, 102, 103, 104, 105] → α' a = α a := fun a hm => hG.2 a (fun hn => by
    have h1 := List.all_eq_true.mp hr a hm
    rw [List.contains_iff_mem.mpr hn] at h1
    exact absurd h1 (by decide))
  unfold qHr
  rw [er 87 (by decide), er 91 (by decide), er 102 (by decide), er 103 (by decide), er 104 (by decide), er 105 (by decide)]
noncomputable def qBm (_ α : Nat → Nat → Int) (p : Int) : Nat → Int := qbF (α 102) (qcw (α 87)) p
theorem qBm_fr {S : List (Nat × Nat)} {R : List Nat} {σ α σ' α' : Nat → Nat → Int} (hG : qFr S R σ α σ' α') (hr : [87, 102].all (fun x => !R.contains x) = true) : qBm σ' α' = qBm σ α := by
  have er : ∀ a, a ∈ [87, 102] → α' a = α a := fun a hm => hG.2 a (fun hn => by
    have h1 := List.all_eq_true.mp hr a hm
    rw [List.contains_iff_mem.mpr hn] at h1
    exact absurd h1 (by decide))
  unfold qBm
  rw [er 87 (by decide), er 102 (by decide)]
noncomputable def qWr (σ α : Nat → Nat → Int) (g0 g1 : (Nat → Int) → Int) (h : Int) (u b p q st t : Int) : Int := if u = 0 then g0 (qNVr σ α b 0 p q st t h) else g1 (qNVr σ α b 0 p q st t h)
/-- the state of a telling, as the reference keeps it -/
def qTr (σ α : Nat → Nat → Int) (st : Int) (s : qTS) : Prop := ((s.1.length : Int) = σ 86 50 ∧ ∀ (i : Nat) (h : i < s.1.length), α 115 i = s.1[i] / 100 ∧ α 116 i = s.1[i] % 100 ∧ s.1[i] % 100 < σ 86 6) ∧ ql_and st (ql_xor (σ 86 10) (-1)) = s.2.1
theorem qTr_0 {σ α : Nat → Nat → Int} {st de : Int} (h : σ 86 50 = 0) (hd : σ 86 10 = de) : qTr σ α st ([], ql_and st (ql_xor de (-1)), 0, []) := by
  refine ⟨⟨by rw [h]; rfl, fun i hi => absurd hi (Nat.not_lt_zero i)⟩, by rw [hd]⟩
theorem qTr_on {σ α : Nat → Nat → Int} {st : Int} {s : qTS} (h : qTr σ α st s) : ∀ i : Nat, (i : Int) < σ 86 50 → α 116 i < σ 86 6 := fun i hi => by
  have h1 := h.1.1
  have h2 := h.1.2 i (by omega)
  omega
theorem qTr_c {σ α σ' α' : Nat → Nat → Int} {st : Int} {s : qTS} (e1 : α' 115 = α 115) (e2 : α' 116 = α 116) (e3 : σ' 86 50 = σ 86 50) (e4 : σ' 86 6 = σ 86 6) (e5 : σ' 86 10 = σ 86 10) (h : qTr σ α st s) : qTr σ' α' st s := by
  unfold qTr
  rw [e1, e2, e3, e4, e5]
  exact h
theorem qand_nn (st d x : Int) : ql_and st (ql_xor (ql_or d x) (-1)) = ql_and (ql_and st (ql_xor d (-1))) (ql_xor x (-1)) := by
  refine qbit_ext (ql_and_r _ _) (ql_and_r _ _) (fun i hi hi2 => ?_)
  have a1 := qband_c st (ql_xor (ql_or d x) (-1)) i
  have a2 := qband_c (ql_and st (ql_xor d (-1))) (ql_xor x (-1)) i
  have a3 := qband_c st (ql_xor d (-1)) i
  have a4 := qbit_not (ql_or d x) ⟨hi, hi2⟩
  have a5 := qbit_not d ⟨hi, hi2⟩
  have a6 := qbit_not x ⟨hi, hi2⟩
  have a7 := qbor_c d x i
  have a8 := qbit_r d i
  have a9 := qbit_r x i
  omega
theorem qTr_land {σ α σ' α' : Nat → Nat → Int} {st x1 x2 : Int} {s : qTS} {H : Int → Int → Int → Nat → Int} {B : Int → Nat → Int} {n : Nat} (hx : (0 ≤ x1 ∧ x1 ≤ 31) ∧ 0 ≤ x2 ∧ x2 ≤ 31) (h6 : x2 < σ 86 6) (hT : qTr σ α st s) (e1 : α' 115 = qzu (α 115) (σ 86 50).toNat x1) (e2 : α' 116 = qzu (α 116) (σ 86 50).toNat x2) (e3 : σ' 86 50 = σ 86 50 + 1) (e4 : σ' 86 6 = σ 86 6) (e5 : σ' 86 10 = ql_or (σ 86 10) (ql_shl 1 x2)) : qTr σ' α' st (qland H B n s (100 * x1 + x2)) := by
  obtain ⟨⟨h1, h2⟩, h3⟩ := hT
  have d1 : (100 * x1 + x2) / 100 = x1 := by omega
  have d2 : (100 * x1 + x2) % 100 = x2 := by omega
  have hlen : (s.1 ++ [100 * x1 + x2]).length = s.1.length + 1 := List.length_append
  refine ⟨⟨?_, fun i hi => ?_⟩, ?_⟩
  · show ((s.1 ++ [100 * x1 + x2]).length : Int) = σ' 86 50
    omega
  · have hi2 : i < (s.1 ++ [100 * x1 + x2]).length := hi
    show α' 115 i = (s.1 ++ [100 * x1 + x2])[i]'hi2 / 100 ∧ α' 116 i = (s.1 ++ [100 * x1 + x2])[i]'hi2 % 100 ∧ (s.1 ++ [100 * x1 + x2])[i]'hi2 % 100 < σ' 86 6
    rw [e1, e2, e4]
    by_cases c : i < s.1.length
    · have e : (s.1 ++ [100 * x1 + x2])[i]'hi2 = s.1[i] := List.getElem_append_left c
      have g1 : qzu (α 115) (σ 86 50).toNat x1 i = α 115 i := if_neg (by omega)
      have g2 : qzu (α 116) (σ 86 50).toNat x2 i = α 116 i := if_neg (by omega)
      rw [e, g1, g2]
      exact h2 i c
    · have e : (s.1 ++ [100 * x1 + x2])[i]'hi2 = 100 * x1 + x2 := by
        rw [List.getElem_append_right (show s.1.length ≤ i by omega)]
        simp
      have g1 : qzu (α 115) (σ 86 50).toNat x1 i = x1 := if_pos (by omega)
      have g2 : qzu (α 116) (σ 86 50).toNat x2 i = x2 := if_pos (by omega)
      rw [e, g1, g2, d1, d2]
      exact ⟨rfl, rfl, h6⟩
  · show ql_and st (ql_xor (σ' 86 10) (-1)) = ql_and s.2.1 (ql_xor (ql_shl 1 ((100 * x1 + x2) % 100)) (-1))
    rw [e5, d2, ← h3]
    exact qand_nn _ _ _
theorem qor_as (a b c : Int) : ql_or (ql_or a b) c = ql_or a (ql_or b c) := by
  refine qbit_ext (ql_or_r _ _) (ql_or_r _ _) (fun i _ _ => ?_)
  have a1 := qbor_c (ql_or a b) c i
  have a2 := qbor_c a b i
  have a3 := qbor_c a (ql_or b c) i
  have a4 := qbor_c b c i
  omega
theorem qbl_no {b w i : Int} {P : Nat → Int} (hi : 0 ≤ i) (hP : ¬ P i.toNat = 1) (h : w = ql_or b (qbs P i.toNat)) : w = ql_or b (qbs P (i + 1).toNat) := by
  have h1 := qbs_s P hi
  rcases h1 with h1 | h1
  · exact absurd h1.1 hP
  · rw [h1.2]
    exact h
theorem qbl_yes {b w v sh i : Int} {P : Nat → Int} (hi : 0 ≤ i) (hP : P i.toNat = 1) (hs : sh = ql_shl 1 i) (hv : v = ql_or w sh) (h : w = ql_or b (qbs P i.toNat)) : v = ql_or b (qbs P (i + 1).toNat) := by
  have h1 := qbs_s P hi
  rcases h1 with h1 | h1
  · rw [h1.2, hv, hs, h]
    exact qor_as _ _ _
  · exact absurd hP h1.1
theorem qbl_0 {b : Int} {P : Nat → Int} (hb : -9223372036854775808 ≤ b ∧ b ≤ 9223372036854775807) : b = ql_or b (qbs P (0 : Int).toNat) := by
  refine qbit_ext hb (ql_or_r _ _) (fun i _ _ => ?_)
  have a1 := qbor_c b (qbs P (0 : Int).toNat) i
  have a2 : qbit (qbs P (0 : Int).toNat) i = 0 := qbit_0 i
  have a3 := qbit_r b i
  omega
theorem qhG_or {b w i : Int} {P f : Nat → Int} (hi : 0 ≤ i ∧ i ≤ 63) (h : w = ql_or b (qbs P i.toNat)) : qhG w f i.toNat = qhG b f i.toNat := by
  have a1 := qhG_c w f i.toNat
  have a2 := qhG_c b f i.toNat
  have a3 := qbor_c b (qbs P i.toNat) i
  have a4 := qbs_c P hi.1 (n := i.toNat) (by omega)
  rw [show ((i.toNat : Nat) : Int) = i by omega] at a1 a2 a4
  rw [← h] at a3
  omega
theorem qNVr_t {σ α : Nat → Nat → Int} (h41 : σ 86 41 = 0) (h6 : σ 86 6 ≤ 32) (b de p q st th h : Int) : qNVr σ α b de p q st th h = qNVr σ α b 0 p q st (ql_and th (ql_xor de (-1))) h := by
  have e : qsm (qshD (α 91) p th de (σ 86 41)) (σ 86 6 : Int).toNat = qsm (qshD (α 91) p (ql_and th (ql_xor de (-1))) 0 (σ 86 41)) (σ 86 6 : Int).toNat := by
    refine qsm_eq _ (fun k hk => ?_)
    have c1 := qshD_c (α 91) p th de (σ 86 41) (i := (k : Int)) (by omega)
    have c2 := qshD_c (α 91) p (ql_and th (ql_xor de (-1))) 0 (σ 86 41) (i := (k : Int)) (by omega)
    have c3 := qband_c th (ql_xor de (-1)) (k : Int)
    have c4 := qbit_not de (i := (k : Int)) ⟨by omega, by omega⟩
    have c5 := qbit_r de (k : Int)
    have c6 := qbit_0 (k : Int)
    rw [Int.toNat_natCast] at c1 c2
    rw [h41] at c1 c2 ⊢
    omega
  unfold qNVr
  rw [e]
/-- whom it falls to next, as a telling has it -/
theorem qtr_v {σ α σn αn : Nat → Nat → Int} {s : qTS} {st hh N : Int} (e : qNVr σn αn = qNVr σ α) (h41 : σ 86 41 = 0) (h6 : σ 86 6 ≤ 32) (hT : qTr σn αn st s) (hb : σn 86 29 = s.2.2.1) : ∀ p q x : Int, 0 ≤ p → p < N → 0 ≤ q → q < N → qNVr σn αn (σn 86 29) (σn 86 10) p q x st hh = qNVr σ α s.2.2.1 0 p q x s.2.1 hh := fun p q x _ _ _ _ => by
  rw [e, qNVr_t h41 h6, hT.2, hb]
theorem qtr_n {σ α σn αn : Nat → Nat → Int} {s : qTS} {g0 g1 : (Nat → Int) → Int} {st hh v N : Int} (hT : qTr σn αn st s) (hV : ∀ p q x : Int, 0 ≤ p → p < N → 0 ≤ q → q < N → qNVr σn αn (σn 86 29) (σn 86 10) p q x st hh = qNVr σ α s.2.2.1 0 p q x s.2.1 hh) (hN : N ≤ 32)
    (h : (0 ≤ v ∧ qFst (fun r t : Int => ¬ t = r ∧ qbit (ql_and st (ql_xor (σn 86 10) (-1))) r = 1 ∧ qbit (ql_and st (ql_xor (σn 86 10) (-1))) t = 1 ∧ ∃ i : Nat, (i : Int) < σn 86 50 ∧ (αn 115 i = t ∧ ¬ g1 (qNVr σn αn (σn 86 29) (σn 86 10) r t (αn 116 i) st hh) = 0)) N v) ∨
      (qFst (fun r t : Int => ¬ t = r ∧ qbit (ql_and st (ql_xor (σn 86 10) (-1))) r = 1 ∧ qbit (ql_and st (ql_xor (σn 86 10) (-1))) t = 1 ∧ ∃ i : Nat, (i : Int) < σn 86 50 ∧ (αn 115 i = t ∧ ¬ g1 (qNVr σn αn (σn 86 29) (σn 86 10) r t (αn 116 i) st hh) = 0)) N (-1) ∧ qFst (fun p q : Int => ¬ q = p ∧ qbit (ql_and st (ql_xor (σn 86 10) (-1))) p = 1 ∧ qbit (ql_and st (ql_xor (σn 86 10) (-1))) q = 1 ∧ ¬ g0 (qNVr σn αn (σn 86 29) (σn 86 10) p q (-1) st hh) = 0) N v)) : qnext (qWr σ α g0 g1 hh) N s = v := by
  obtain ⟨⟨h1, h2⟩, h3⟩ := hT
  have hW1 : ∀ p q x : Int, qWr σ α g0 g1 hh 1 s.2.2.1 p q x s.2.1 = g1 (qNVr σ α s.2.2.1 0 p q x s.2.1 hh) := fun p q x => if_neg (by decide)
  have hW0 : ∀ p q x : Int, qWr σ α g0 g1 hh 0 s.2.2.1 p q x s.2.1 = g0 (qNVr σ α s.2.2.1 0 p q x s.2.1 hh) := fun p q x => if_pos rfl
  have E1 : ∀ w : Int, qFst (fun r t : Int => ¬ t = r ∧ qbit (ql_and st (ql_xor (σn 86 10) (-1))) r = 1 ∧ qbit (ql_and st (ql_xor (σn 86 10) (-1))) t = 1 ∧ ∃ i : Nat, (i : Int) < σn 86 50 ∧ (αn 115 i = t ∧ ¬ g1 (qNVr σn αn (σn 86 29) (σn 86 10) r t (αn 116 i) st hh) = 0)) N w → qfst (qkC1 (qWr σ α g0 g1 hh) s) N = w := fun w hw => by
    refine qfst_of hN (qFst_eq (fun r t k1 k2 k3 k4 => ?_) hw)
    constructor
    · rintro ⟨c1, c2, c3, i, hi, c4, c5⟩
      have hi2 : i < s.1.length := by omega
      have h4 := h2 i hi2
      rw [h3] at c2 c3
      rw [hV _ _ _ k1 k2 k3 k4, h4.2.1] at c5
      refine ⟨fun z => c1 z.symm, c2, c3, i, hi2, by rw [← h4.1]; exact c4, ?_⟩
      rw [hW1]
      exact c5
    · rintro ⟨c1, c2, c3, i, hi2, c4, c5⟩
      have h4 := h2 i hi2
      rw [hW1] at c5
      refine ⟨fun z => c1 z.symm, by rw [h3]; exact c2, by rw [h3]; exact c3, i, by omega, by rw [h4.1]; exact c4, ?_⟩
      rw [hV _ _ _ k1 k2 k3 k4, h4.2.1]
      exact c5
  have E0 : ∀ w : Int, qFst (fun p q : Int => ¬ q = p ∧ qbit (ql_and st (ql_xor (σn 86 10) (-1))) p = 1 ∧ qbit (ql_and st (ql_xor (σn 86 10) (-1))) q = 1 ∧ ¬ g0 (qNVr σn αn (σn 86 29) (σn 86 10) p q (-1) st hh) = 0) N w → qfst (qkC0 (qWr σ α g0 g1 hh) s) N = w := fun w hw => by
    refine qfst_of hN (qFst_eq (fun p q k1 k2 k3 k4 => ?_) hw)
    unfold qkC0
    rw [hW0, hV _ _ _ k1 k2 k3 k4, h3]
    exact ⟨fun c => ⟨fun z => c.1 z.symm, c.2⟩, fun c => ⟨fun z => c.1 z.symm, c.2⟩⟩
  rcases h with ⟨a, b⟩ | ⟨a, b⟩
  · exact qnext_1 (E1 v b) (by omega)
  · exact qnext_0 (E1 (-1) a) (by decide) (E0 v b)
theorem qtr_r {σn αn : Nat → Nat → Int} {g0 g1 : (Nat → Int) → Int} {st hh v N : Int} (hv : -1 ≤ v)
    (h : (0 ≤ v ∧ qFst (fun r t : Int => ¬ t = r ∧ qbit (ql_and st (ql_xor (σn 86 10) (-1))) r = 1 ∧ qbit (ql_and st (ql_xor (σn 86 10) (-1))) t = 1 ∧ ∃ i : Nat, (i : Int) < σn 86 50 ∧ (αn 115 i = t ∧ ¬ g1 (qNVr σn αn (σn 86 29) (σn 86 10) r t (αn 116 i) st hh) = 0)) N v) ∨
      (qFst (fun r t : Int => ¬ t = r ∧ qbit (ql_and st (ql_xor (σn 86 10) (-1))) r = 1 ∧ qbit (ql_and st (ql_xor (σn 86 10) (-1))) t = 1 ∧ ∃ i : Nat, (i : Int) < σn 86 50 ∧ (αn 115 i = t ∧ ¬ g1 (qNVr σn αn (σn 86 29) (σn 86 10) r t (αn 116 i) st hh) = 0)) N (-1) ∧ qFst (fun p q : Int => ¬ q = p ∧ qbit (ql_and st (ql_xor (σn 86 10) (-1))) p = 1 ∧ qbit (ql_and st (ql_xor (σn 86 10) (-1))) q = 1 ∧ ¬ g0 (qNVr σn αn (σn 86 29) (σn 86 10) p q (-1) st hh) = 0) N v)) : v = -1 ∨ (0 ≤ v ∧ v / 100 < N ∧ v % 100 < N ∧ ¬ v / 100 = v % 100) := by
  rcases h with ⟨a, b⟩ | ⟨_, b⟩ <;> rcases b with b | ⟨b1, b2, _⟩
  · exact Or.inl b.1
  · exact Or.inr ⟨b1.1, b1.2.1, b1.2.2, fun z => b2.1 z.symm⟩
  · exact Or.inl b.1
  · exact Or.inr ⟨b1.1, b1.2.1, b1.2.2, fun z => b2.1 z.symm⟩
theorem qgo_a {H : Int → Int → Int → Nat → Int} {B : Int → Nat → Int} {m : Nat} {W : Int → Int → Int → Int → Int → Int → Int} {N c : Int} {s X : qTS} (hc : 30 ≤ c) (h : qtell H B m W N (30 - c).toNat s = X) : s = X := by
  rw [show (30 - c).toNat = 0 by omega] at h
  exact h
theorem qgo_b {H : Int → Int → Int → Nat → Int} {B : Int → Nat → Int} {m : Nat} {W : Int → Int → Int → Int → Int → Int → Int} {N c c2 v : Int} {s X : qTS} (hc : c ≤ 29) (hc2 : c2 = c + 1) (hq : qnext W N s = v) (h : qtell H B m W N (30 - c).toNat s = X) : (v < 0 ∧ s = X) ∨ (0 ≤ v ∧ qtell H B m W N (30 - c2).toNat (qland H B m s v) = X) := by
  rw [show (30 - c).toNat = (30 - c2).toNat + 1 by omega] at h
  rw [← h]
  by_cases h0 : v < 0
  · refine Or.inl ⟨h0, ?_⟩
    have h0' : qnext W N s < 0 := by rw [hq]; exact h0
    exact (show qtell H B m W N ((30 - c2).toNat + 1) s = s from if_pos h0').symm
  · refine Or.inr ⟨by omega, ?_⟩
    have h0' : ¬ qnext W N s < 0 := by rw [hq]; exact h0
    rw [show qtell H B m W N ((30 - c2).toNat + 1) s = qtell H B m W N (30 - c2).toNat (qland H B m s (qnext W N s)) from if_neg h0', hq]
theorem qgo_u {P Q : Prop} {v : Int} (h : (v < 0 ∧ P) ∨ (0 ≤ v ∧ Q)) (hv : 0 ≤ v) : Q := by
  rcases h with h | h
  · exact absurd h.1 (by omega)
  · exact h.2
theorem qgo_e {P Q : Prop} {v : Int} (h : (v < 0 ∧ P) ∨ (0 ≤ v ∧ Q)) (hv : v < 0) : P := by
  rcases h with h | h
  · exact h.2
  · exact absurd h.1 (by omega)

set_option maxHeartbeats 4000000 in
set_option maxRecDepth 20000 in
/-- OneRoofModel.blowFalls -/
theorem sf_247_86x0 {L : Nat} {xs : Nat → Int} {vb : Bool} {d : Nat} {σ α : Nat → Nat → Int} {κ : Nat → Option Nat} {ρ : Nat} {x1 : Int} {x2 : Int} {x3 : Int} {s : qTS} {st : Int} (hI : qI σ α κ ρ) (r1 : 0 ≤ x1 ∧ x1 ≤ 31) (r2 : 0 ≤ x2 ∧ x2 ≤ 31) (r3 : (-2147483648) ≤ x3 ∧ x3 ≤ 2147483647) (p0 : ¬ x1 = x2) (p1 : qZk σ α) (p2 : x1 < σ 86 6 ∧ x2 < σ 86 6) (p3 : σ 86 50 ≤ 30) (p4 : qTr σ α st s) (p5 : σ 86 29 = s.2.2.1) : qm_T (qe L xs vb) (d + 4) 247 [.ref 86, .int (qz x1), .int (qz x2), .int (qz x3), .int (qz 0)] (qw σ α κ ρ) (fun r w' => ∃ σ' α', w' = qw σ' α' κ ρ ∧ qI σ' α' κ ρ ∧ qFr [(86, 10), (86, 29), (86, 50)] [115, 116] σ α σ' α' ∧ σ' 86 50 = σ 86 50 + 1 ∧ r = none ∧ qTr σ' α' st (qland (qHr σ α x3) (qBm σ α) (σ 86 24 : Int).toNat s (100 * x1 + x2)) ∧ σ' 86 29 = ((qland (qHr σ α x3) (qBm σ α) (σ 86 24 : Int).toNat s (100 * x1 + x2))).2.2.1) := by
  refine qr_start (d := d + 3) qv_e247 (Nat.le_of_ble_eq_true rfl) ?_
  show qr_W (qe L xs vb) (d + 3) qx_e247 _ (0, [(0, .ref 86), (1, .int (qz x1)), (2, .int (qz x2)), (3, .int (qz x3)), (4, .int (qz 0))], [], _, 0, 0)
  have hF0 := qFr_rf [(86, 10), (86, 29), (86, 50)] [115, 116] σ α
  have hz86_6 : 0 ≤ σ 86 6 ∧ σ 86 6 ≤ 32 := hI.1 86 6
  have hz86_50 : 0 ≤ σ 86 50 ∧ σ 86 50 ≤ 31 := hI.1 86 50
  have hz86_29 : (-9223372036854775808) ≤ σ 86 29 ∧ σ 86 29 ≤ 9223372036854775807 := hI.1 86 29
  have hz86_10 : (-9223372036854775808) ≤ σ 86 10 ∧ σ 86 10 ≤ 9223372036854775807 := hI.1 86 10
  have hz86_24 : 0 ≤ σ 86 24 ∧ σ 86 24 ≤ 60 := hI.1 86 24
  refine qr_iconst 1 rfl rfl ?_
  refine qr_istore _ 3 rfl (by decide) rfl rfl ?_
  have hL1245 : ∀ (n : Nat) (ls : qm_L) (u1231 : Int) (σ1232 α1233 : Nat → Nat → Int), 60 - u1231 < (n : Int) → qm_get ls 0 = some (.ref 86) → qm_get ls 1 = some (.int (qz x1)) → qm_get ls 2 = some (.int (qz x2)) → qm_get ls 3 = some (.int (qz x3)) → qm_get ls 4 = some (.int (qz 0)) → qm_get ls 5 = some (.int (qz u1231)) → (0 ≤ u1231 ∧ u1231 ≤ 60) → qI σ1232 α1233 κ ρ → qFr [(86, 10), (86, 29), (86, 50)] [115, 116] σ α σ1232 α1233 → σ1232 86 6 = (σ 86 6) → σ1232 86 10 = (σ 86 10) → σ1232 86 24 = (σ 86 24) → σ1232 86 50 = (σ 86 50) → α1233 115 = (α 115) → α1233 116 = (α 116) → σ1232 86 29 = ql_or (σ 86 29) (qbs (qPk (qHr σ α x3 (σ 86 29) x1 x2) (qBm σ α x1)) (u1231 : Int).toNat) → u1231 ≤ σ 86 24 → qr_W (qe L xs vb) (d + 3) qx_e247 (fun r w' => ∃ σ' α', w' = qw σ' α' κ ρ ∧ qI σ' α' κ ρ ∧ qFr [(86, 10), (86, 29), (86, 50)] [115, 116] σ α σ' α' ∧ σ' 86 50 = σ 86 50 + 1 ∧ r = none ∧ qTr σ' α' st (qland (qHr σ α x3) (qBm σ α) (σ 86 24 : Int).toNat s (100 * x1 + x2)) ∧ σ' 86 29 = ((qland (qHr σ α x3) (qBm σ α) (σ 86 24 : Int).toNat s (100 * x1 + x2))).2.2.1) (3, ls, [], qw σ1232 α1233 κ ρ, 0, 0) := by
    intro n
    induction n with
    | zero => intro ls u1231 σ1232 α1233 hm g1225 g1226 g1227 g1228 g1229 g1230 hf1242 hI1234 hF1235 hk1236 hk1237 hk1238 hk1239 hk1240 hk1241 hx1243 hx1244; exact False.elim (by omega)
    | succ n ih1246 =>
      intro ls u1231 σ1232 α1233 hm g1225 g1226 g1227 g1228 g1229 g1230 hf1242 hI1234 hF1235 hk1236 hk1237 hk1238 hk1239 hk1240 hk1241 hx1243 hx1244
      have hs1247 : (-9223372036854775808) ≤ σ1232 86 29 ∧ σ1232 86 29 ≤ 9223372036854775807 := hI1234.1 86 29
      refine qr_iload 5 rfl g1230 rfl ?_
      refine qr_aload_n 6 rfl g1225 rfl ?_
      refine qr_get 9 rfl rfl rfl (by decide) rfl ?_
      refine qy_v (σ 86 24) ((hk1238).trans rfl) ?_
      refine qr_icmp_ge 86 12 rfl rfl rfl (by omega) (by omega) (fun h1248 => ?_) (fun h1248 => ?_)
      · skip
        refine qr_aload_n 87 rfl g1225 rfl ?_
        refine qr_dup 88 rfl rfl rfl ?_
        refine qr_get 91 rfl rfl rfl (by decide) rfl ?_
        refine qy_vl (σ 86 10) ((hk1237).trans rfl) ?_
        refine qr_lconst 92 rfl rfl ?_
        refine qy_vl 1 rfl ?_
        refine qr_iload_n 93 rfl g1227 rfl ?_
        refine qr_lshl 94 rfl rfl ?_
        refine qy_canlE (fun v1249 hv1249 hev1249 => ?_)
        refine qr_lor 95 rfl rfl ?_
        refine qy_canlE (fun v1250 hv1250 hev1250 => ?_)
        refine qr_put 98 rfl (by decide) rfl (Nat.le_of_ble_eq_true rfl) (Nat.le_of_ble_eq_true rfl) (Or.inl rfl) (qr_fitL rfl _) rfl ?_
        refine qy_wS (qw_s σ1232 86 10 v1250) rfl (fun σ1251 e1252 => ?_)
        have hI1253 : qI σ1251 α1233 κ ρ := by rw [e1252]; exact qI_s hI1234 86 10 rfl (show (-9223372036854775808) ≤ v1250 ∧ v1250 ≤ 9223372036854775807 by omega)
        have hF1254 : qFr [(86, 10), (86, 29), (86, 50)] [115, 116] σ α σ1251 α1233 := by rw [e1252]; exact qFr_s hF1235 86 10 _ (by decide)
        refine qr_aload_n 99 rfl g1225 rfl ?_
        refine qr_get 102 rfl rfl rfl (by decide) rfl ?_
        refine qr_aload_n 103 rfl g1225 rfl ?_
        refine qr_get 106 rfl rfl rfl (by decide) rfl ?_
        refine qy_v (σ 86 50) ((congrFun (congrFun e1252 86) 50).trans ((hk1239).trans rfl)) ?_
        refine qr_iload_n 107 rfl g1226 rfl ?_
        refine qr_iastore 108 rfl (by decide) rfl (by omega) (by decide) rfl ?_
        refine qy_wA (qw_r α1233 115 (qzu (α1233 115) ((σ 86 50) : Int).toNat x1)) rfl (fun α1255 e1256 => ?_)
        have hI1257 : qI σ1251 α1255 κ ρ := by rw [e1256]; exact qI_r hI1253 115 _ rfl (show 0 ≤ x1 ∧ x1 ≤ 31 by omega)
        have hF1258 : qFr [(86, 10), (86, 29), (86, 50)] [115, 116] σ α σ1251 α1255 := by rw [e1256]; exact qFr_r hF1254 115 _ (by decide)
        refine qr_aload_n 109 rfl g1225 rfl ?_
        refine qr_get 112 rfl rfl rfl (by decide) rfl ?_
        refine qr_aload_n 113 rfl g1225 rfl ?_
        refine qr_get 116 rfl rfl rfl (by decide) rfl ?_
        refine qy_v (σ 86 50) ((congrFun (congrFun e1252 86) 50).trans ((hk1239).trans rfl)) ?_
        refine qr_iload_n 117 rfl g1227 rfl ?_
        refine qr_iastore 118 rfl (by decide) rfl (by omega) (by decide) rfl ?_
        refine qy_wA (qw_r α1255 116 (qzu (α1255 116) ((σ 86 50) : Int).toNat x2)) rfl (fun α1259 e1260 => ?_)
        have hI1261 : qI σ1251 α1259 κ ρ := by rw [e1260]; exact qI_r hI1257 116 _ rfl (show 0 ≤ x2 ∧ x2 ≤ 31 by omega)
        have hF1262 : qFr [(86, 10), (86, 29), (86, 50)] [115, 116] σ α σ1251 α1259 := by rw [e1260]; exact qFr_r hF1258 116 _ (by decide)
        refine qr_aload_n 119 rfl g1225 rfl ?_
        refine qr_dup 120 rfl rfl rfl ?_
        refine qr_get 123 rfl rfl rfl (by decide) rfl ?_
        refine qy_v (σ 86 50) ((congrFun (congrFun e1252 86) 50).trans ((hk1239).trans rfl)) ?_
        refine qr_iconst 124 rfl rfl ?_
        refine qr_iadd 125 rfl rfl ?_
        refine qr_put 128 rfl (by decide) rfl (Nat.le_of_ble_eq_true rfl) (Nat.le_of_ble_eq_true rfl) (Or.inl rfl) (qr_fitI rfl _) rfl ?_
        refine qy_wS (qw_s σ1251 86 50 ((σ 86 50) + 1)) rfl (fun σ1263 e1264 => ?_)
        have hI1265 : qI σ1263 α1259 κ ρ := by rw [e1264]; exact qI_s hI1261 86 50 rfl (show 0 ≤ ((σ 86 50) + 1) ∧ ((σ 86 50) + 1) ≤ 31 by omega)
        have hF1266 : qFr [(86, 10), (86, 29), (86, 50)] [115, 116] σ α σ1263 α1259 := by rw [e1264]; exact qFr_s hF1262 86 50 _ (by decide)
        refine qr_retV rfl rfl (by decide) (by decide) ?_
        exact ⟨_, _, rfl, hI1265, hF1266, (by have hw : σ1263 86 50 = ((σ 86 50) + 1) := (congrFun (congrFun e1264 86) 50).trans rfl; omega), rfl, (qTr_land (H := qHr σ α x3) (B := qBm σ α) (n := (σ 86 24 : Int).toNat) ⟨r1, r2⟩ (by omega) p4 (((congrFun e1260 115).trans ((qw_r_ne (by decide)).trans ((congrFun e1256 115).trans (qw_r_eq.trans (congrArg (fun f => qzu f ((σ 86 50) : Int).toNat x1) hk1240)))))) (((congrFun e1260 116).trans (qw_r_eq.trans (congrArg (fun f => qzu f ((σ 86 50) : Int).toNat x2) ((congrFun e1256 116).trans ((qw_r_ne (by decide)).trans hk1241)))))) ((congrFun (congrFun e1264 86) 50).trans rfl) ((congrFun (congrFun e1264 86) 6).trans ((congrFun (congrFun e1252 86) 6).trans ((hk1236).trans rfl))) (by have hw : σ1263 86 10 = v1250 := (congrFun (congrFun e1264 86) 10).trans ((congrFun (congrFun e1252 86) 10).trans rfl); rw [hw, ql_val hev1250 (by omega) (ql_or_r _ _), ql_val hev1249 (by omega) (ql_shl_r _ _)])), (by have hb := hx1243; show σ1263 86 29 = ql_or s.2.2.1 (qbs (qPk (qHr σ α x3 s.2.2.1 ((100 * x1 + x2) / 100) ((100 * x1 + x2) % 100)) (qBm σ α ((100 * x1 + x2) / 100))) (σ 86 24 : Int).toNat); rw [show (100 * x1 + x2) / 100 = x1 by omega, show (100 * x1 + x2) % 100 = x2 by omega, ← p5, show (σ 86 24 : Int).toNat = (u1231 : Int).toNat by rw [show σ 86 24 = u1231 by omega], (congrFun (congrFun e1264 86) 29).trans ((congrFun (congrFun e1252 86) 29).trans rfl)]; exact hb)⟩
      · skip
        refine qr_aload_n 13 rfl g1225 rfl ?_
        refine qr_iload 15 rfl g1230 rfl ?_
        refine qr_iload_n 16 rfl g1226 rfl ?_
        refine qr_iload_n 17 rfl g1227 rfl ?_
        refine qr_iload_n 18 rfl g1228 rfl ?_
        have hs1267 : 0 ≤ σ1232 86 24 ∧ σ1232 86 24 ≤ 60 := hI1234.1 86 24
        have hs1268 : σ1232 86 24 = (σ 86 24) := (hk1238).trans rfl
        have hs1269 : 0 ≤ σ1232 86 6 ∧ σ1232 86 6 ≤ 32 := hI1234.1 86 6
        have hs1270 : σ1232 86 6 = (σ 86 6) := (hk1236).trans rfl
        refine qr_callN 21 rfl rfl rfl (sf_205_86x (d := d + 0) hI1234 (by omega) (by omega) (by omega) (by omega) (by omega) (by omega) (qZk_fr hF1235 (by decide) (by decide) p1) (by omega)) ?_
        have hs1273 : (-9223372036854775808) ≤ σ1232 86 29 ∧ σ1232 86 29 ≤ 9223372036854775807 := hI1234.1 86 29
        rintro _ _ ⟨rfl, v1271, rfl, hv1271, hp1272⟩
        rw [hF1235.2 87 (by decide), hF1235.2 91 (by decide), hF1235.2 102 (by decide), hF1235.2 103 (by decide), hF1235.2 104 (by decide), hF1235.2 105 (by decide)] at hp1272
        show qr_W (qe L xs vb) (d + 3) qx_e247 _ (21, _, [.int (qz v1271)], qw σ1232 α1233 κ ρ, 0, 0)
        refine qr_if_eq 80 24 rfl rfl rfl (by omega) (fun h1274 => ?_) (fun h1274 => ?_)
        · skip
          refine qr_iinc _ 83 rfl g1230 (by decide) rfl rfl ?_
          refine qr_goto 3 rfl rfl ?_
          exact ih1246 _ (u1231 + 1) σ1232 α1233 (by omega) (qm_gk g1225 (by decide) (Or.inl (by decide))) (qm_gk g1226 (by decide) (Or.inl (by decide))) (qm_gk g1227 (by decide) (Or.inl (by decide))) (qm_gk g1228 (by decide) (Or.inl (by decide))) (qm_gk g1229 (by decide) (Or.inr rfl)) (qm_ge _ _ _) (by omega) hI1234 hF1235 ((hk1236).trans rfl) ((hk1237).trans rfl) ((hk1238).trans rfl) ((hk1239).trans rfl) hk1240 hk1241 (qbl_no (by omega) (by have a1 := qPk_c (qHr σ α x3 (σ 86 29) x1 x2) (qBm σ α x1) (u1231 : Int).toNat; have a2 : qHr σ α x3 (σ 86 29) x1 x2 (u1231 : Int).toNat = qhG (σ 86 29) (qhF (qsh (α 87) 192) (α 102) (α 103) (qun (α 104) (α 105) (qsh (α 87) 192)) (qcw (α 87)) (qll (α 91)) x1 x2 x3) (u1231 : Int).toNat := rfl; have a3 := qhG_or (f := (qhF (qsh (α 87) 192) (α 102) (α 103) (qun (α 104) (α 105) (qsh (α 87) 192)) (qcw (α 87)) (qll (α 91)) x1 x2 x3)) (by omega) hx1243; have a4 : (qBm σ α x1 (u1231 : Int).toNat = 1 ∧ (α 102 (u1231 : Int).toNat = x1 ∨ qcw (α 87) (u1231 : Int).toNat x1 = 1)) ∨ (qBm σ α x1 (u1231 : Int).toNat = 0 ∧ ¬ (α 102 (u1231 : Int).toNat = x1 ∨ qcw (α 87) (u1231 : Int).toNat x1 = 1)) := qbF_d (α 102) (qcw (α 87)) x1 (u1231 : Int).toNat; have a5 := hp1272; omega) hx1243) (by omega)
        · skip
          refine qr_aload_n 25 rfl g1225 rfl ?_
          refine qr_get 28 rfl rfl rfl (by decide) rfl ?_
          refine qr_iload 30 rfl g1230 rfl ?_
          refine qr_iaload 31 rfl rfl (by omega) (by decide) rfl ?_
          refine qr_topI (fun v1275 hv1275 => ?_)
          have hs1276 : 0 ≤ v1275 ∧ v1275 ≤ 31 := by rw [hv1275]; exact hI1234.2.1 102 _ (show _ < 60 by omega)
          refine qr_iload_n 32 rfl g1226 rfl ?_
          refine qr_icmp_eq 45 35 rfl rfl rfl (by omega) (by omega) (fun h1277 => ?_) (fun h1277 => ?_)
          · skip
            refine qr_iload 47 rfl g1229 rfl ?_
            refine qr_if_eq 67 50 rfl rfl rfl (by omega) (fun h1278 => ?_) (fun h => False.elim (by omega))
            refine qr_aload_n 68 rfl g1225 rfl ?_
            refine qr_dup 69 rfl rfl rfl ?_
            refine qr_get 72 rfl rfl rfl (by decide) rfl ?_
            refine qr_lconst 73 rfl rfl ?_
            refine qy_vl 1 rfl ?_
            refine qr_iload 75 rfl g1230 rfl ?_
            refine qr_lshl 76 rfl rfl ?_
            refine qy_canlE (fun v1279 hv1279 hev1279 => ?_)
            refine qr_lor 77 rfl rfl ?_
            refine qy_canlE (fun v1280 hv1280 hev1280 => ?_)
            refine qr_put 80 rfl (by decide) rfl (Nat.le_of_ble_eq_true rfl) (Nat.le_of_ble_eq_true rfl) (Or.inl rfl) (qr_fitL rfl _) rfl ?_
            refine qy_wS (qw_s σ1232 86 29 v1280) rfl (fun σ1281 e1282 => ?_)
            have hI1283 : qI σ1281 α1233 κ ρ := by rw [e1282]; exact qI_s hI1234 86 29 rfl (show (-9223372036854775808) ≤ v1280 ∧ v1280 ≤ 9223372036854775807 by omega)
            have hF1284 : qFr [(86, 10), (86, 29), (86, 50)] [115, 116] σ α σ1281 α1233 := by rw [e1282]; exact qFr_s hF1235 86 29 _ (by decide)
            refine qr_iinc _ 83 rfl g1230 (by decide) rfl rfl ?_
            refine qr_goto 3 rfl rfl ?_
            exact ih1246 _ (u1231 + 1) σ1281 α1233 (by omega) (qm_gk g1225 (by decide) (Or.inl (by decide))) (qm_gk g1226 (by decide) (Or.inl (by decide))) (qm_gk g1227 (by decide) (Or.inl (by decide))) (qm_gk g1228 (by decide) (Or.inl (by decide))) (qm_gk g1229 (by decide) (Or.inr rfl)) (qm_ge _ _ _) (by omega) hI1283 hF1284 ((congrFun (congrFun e1282 86) 6).trans ((hk1236).trans rfl)) ((congrFun (congrFun e1282 86) 10).trans ((hk1237).trans rfl)) ((congrFun (congrFun e1282 86) 24).trans ((hk1238).trans rfl)) ((congrFun (congrFun e1282 86) 50).trans ((hk1239).trans rfl)) hk1240 hk1241 (qbl_yes (by omega) (by have a1 := qPk_c (qHr σ α x3 (σ 86 29) x1 x2) (qBm σ α x1) (u1231 : Int).toNat; have a2 : qHr σ α x3 (σ 86 29) x1 x2 (u1231 : Int).toNat = qhG (σ 86 29) (qhF (qsh (α 87) 192) (α 102) (α 103) (qun (α 104) (α 105) (qsh (α 87) 192)) (qcw (α 87)) (qll (α 91)) x1 x2 x3) (u1231 : Int).toNat := rfl; have a3 := qhG_or (f := (qhF (qsh (α 87) 192) (α 102) (α 103) (qun (α 104) (α 105) (qsh (α 87) 192)) (qcw (α 87)) (qll (α 91)) x1 x2 x3)) (by omega) hx1243; have a4 : (qBm σ α x1 (u1231 : Int).toNat = 1 ∧ (α 102 (u1231 : Int).toNat = x1 ∨ qcw (α 87) (u1231 : Int).toNat x1 = 1)) ∨ (qBm σ α x1 (u1231 : Int).toNat = 0 ∧ ¬ (α 102 (u1231 : Int).toNat = x1 ∨ qcw (α 87) (u1231 : Int).toNat x1 = 1)) := qbF_d (α 102) (qcw (α 87)) x1 (u1231 : Int).toNat; have a5 := hp1272; have a6 : v1275 = α 102 (u1231 : Int).toNat := (by rw [hv1275, hF1235.2 102 (by decide)]); omega) (ql_val hev1279 (by omega) (ql_shl_r _ _)) (by have hw : σ1281 86 29 = v1280 := (congrFun (congrFun e1282 86) 29).trans rfl; rw [hw, ql_val hev1280 (by omega) (ql_or_r _ _)]) hx1243) (by omega)
          · skip
            refine qr_aload_n 36 rfl g1225 rfl ?_
            refine qr_iload 38 rfl g1230 rfl ?_
            refine qr_iload_n 39 rfl g1226 rfl ?_
            refine qr_callN 42 rfl rfl rfl (sf_202_86x (d := d + 2) hI1234 (by omega) (by omega)) ?_
            rintro _ _ ⟨rfl, v1285, rfl, hv1285, hp1286⟩
            rw [hF1235.2 87 (by decide)] at hp1286
            show qr_W (qe L xs vb) (d + 3) qx_e247 _ (42, _, [.int (qz v1285)], qw σ1232 α1233 κ ρ, 0, 0)
            refine qr_if_eq 80 45 rfl rfl rfl (by omega) (fun h1287 => ?_) (fun h1287 => ?_)
            · skip
              refine qr_iinc _ 83 rfl g1230 (by decide) rfl rfl ?_
              refine qr_goto 3 rfl rfl ?_
              exact ih1246 _ (u1231 + 1) σ1232 α1233 (by omega) (qm_gk g1225 (by decide) (Or.inl (by decide))) (qm_gk g1226 (by decide) (Or.inl (by decide))) (qm_gk g1227 (by decide) (Or.inl (by decide))) (qm_gk g1228 (by decide) (Or.inl (by decide))) (qm_gk g1229 (by decide) (Or.inr rfl)) (qm_ge _ _ _) (by omega) hI1234 hF1235 ((hk1236).trans rfl) ((hk1237).trans rfl) ((hk1238).trans rfl) ((hk1239).trans rfl) hk1240 hk1241 (qbl_no (by omega) (by have a1 := qPk_c (qHr σ α x3 (σ 86 29) x1 x2) (qBm σ α x1) (u1231 : Int).toNat; have a2 : qHr σ α x3 (σ 86 29) x1 x2 (u1231 : Int).toNat = qhG (σ 86 29) (qhF (qsh (α 87) 192) (α 102) (α 103) (qun (α 104) (α 105) (qsh (α 87) 192)) (qcw (α 87)) (qll (α 91)) x1 x2 x3) (u1231 : Int).toNat := rfl; have a3 := qhG_or (f := (qhF (qsh (α 87) 192) (α 102) (α 103) (qun (α 104) (α 105) (qsh (α 87) 192)) (qcw (α 87)) (qll (α 91)) x1 x2 x3)) (by omega) hx1243; have a4 : (qBm σ α x1 (u1231 : Int).toNat = 1 ∧ (α 102 (u1231 : Int).toNat = x1 ∨ qcw (α 87) (u1231 : Int).toNat x1 = 1)) ∨ (qBm σ α x1 (u1231 : Int).toNat = 0 ∧ ¬ (α 102 (u1231 : Int).toNat = x1 ∨ qcw (α 87) (u1231 : Int).toNat x1 = 1)) := qbF_d (α 102) (qcw (α 87)) x1 (u1231 : Int).toNat; have a5 := hp1272; have a6 : v1275 = α 102 (u1231 : Int).toNat := (by rw [hv1275, hF1235.2 102 (by decide)]); have a7 := hp1286; omega) hx1243) (by omega)
            · skip
              refine qr_iload 47 rfl g1229 rfl ?_
              refine qr_if_eq 67 50 rfl rfl rfl (by omega) (fun h1288 => ?_) (fun h => False.elim (by omega))
              refine qr_aload_n 68 rfl g1225 rfl ?_
              refine qr_dup 69 rfl rfl rfl ?_
              refine qr_get 72 rfl rfl rfl (by decide) rfl ?_
              refine qr_lconst 73 rfl rfl ?_
              refine qy_vl 1 rfl ?_
              refine qr_iload 75 rfl g1230 rfl ?_
              refine qr_lshl 76 rfl rfl ?_
              refine qy_canlE (fun v1289 hv1289 hev1289 => ?_)
              refine qr_lor 77 rfl rfl ?_
              refine qy_canlE (fun v1290 hv1290 hev1290 => ?_)
              refine qr_put 80 rfl (by decide) rfl (Nat.le_of_ble_eq_true rfl) (Nat.le_of_ble_eq_true rfl) (Or.inl rfl) (qr_fitL rfl _) rfl ?_
              refine qy_wS (qw_s σ1232 86 29 v1290) rfl (fun σ1291 e1292 => ?_)
              have hI1293 : qI σ1291 α1233 κ ρ := by rw [e1292]; exact qI_s hI1234 86 29 rfl (show (-9223372036854775808) ≤ v1290 ∧ v1290 ≤ 9223372036854775807 by omega)
              have hF1294 : qFr [(86, 10), (86, 29), (86, 50)] [115, 116] σ α σ1291 α1233 := by rw [e1292]; exact qFr_s hF1235 86 29 _ (by decide)
              refine qr_iinc _ 83 rfl g1230 (by decide) rfl rfl ?_
              refine qr_goto 3 rfl rfl ?_
              exact ih1246 _ (u1231 + 1) σ1291 α1233 (by omega) (qm_gk g1225 (by decide) (Or.inl (by decide))) (qm_gk g1226 (by decide) (Or.inl (by decide))) (qm_gk g1227 (by decide) (Or.inl (by decide))) (qm_gk g1228 (by decide) (Or.inl (by decide))) (qm_gk g1229 (by decide) (Or.inr rfl)) (qm_ge _ _ _) (by omega) hI1293 hF1294 ((congrFun (congrFun e1292 86) 6).trans ((hk1236).trans rfl)) ((congrFun (congrFun e1292 86) 10).trans ((hk1237).trans rfl)) ((congrFun (congrFun e1292 86) 24).trans ((hk1238).trans rfl)) ((congrFun (congrFun e1292 86) 50).trans ((hk1239).trans rfl)) hk1240 hk1241 (qbl_yes (by omega) (by have a1 := qPk_c (qHr σ α x3 (σ 86 29) x1 x2) (qBm σ α x1) (u1231 : Int).toNat; have a2 : qHr σ α x3 (σ 86 29) x1 x2 (u1231 : Int).toNat = qhG (σ 86 29) (qhF (qsh (α 87) 192) (α 102) (α 103) (qun (α 104) (α 105) (qsh (α 87) 192)) (qcw (α 87)) (qll (α 91)) x1 x2 x3) (u1231 : Int).toNat := rfl; have a3 := qhG_or (f := (qhF (qsh (α 87) 192) (α 102) (α 103) (qun (α 104) (α 105) (qsh (α 87) 192)) (qcw (α 87)) (qll (α 91)) x1 x2 x3)) (by omega) hx1243; have a4 : (qBm σ α x1 (u1231 : Int).toNat = 1 ∧ (α 102 (u1231 : Int).toNat = x1 ∨ qcw (α 87) (u1231 : Int).toNat x1 = 1)) ∨ (qBm σ α x1 (u1231 : Int).toNat = 0 ∧ ¬ (α 102 (u1231 : Int).toNat = x1 ∨ qcw (α 87) (u1231 : Int).toNat x1 = 1)) := qbF_d (α 102) (qcw (α 87)) x1 (u1231 : Int).toNat; have a5 := hp1272; have a6 : v1275 = α 102 (u1231 : Int).toNat := (by rw [hv1275, hF1235.2 102 (by decide)]); have a7 := hp1286; omega) (ql_val hev1289 (by omega) (ql_shl_r _ _)) (by have hw : σ1291 86 29 = v1290 := (congrFun (congrFun e1292 86) 29).trans rfl; rw [hw, ql_val hev1290 (by omega) (ql_or_r _ _)]) hx1243) (by omega)
  exact hL1245 ((60 - 0 + 1 : Int)).toNat _ 0 σ α (by omega) rfl rfl rfl rfl rfl rfl (by omega) hI hF0 (rfl) (rfl) (rfl) (rfl) rfl rfl ((rfl).trans (qbl_0 (hI.1 86 29))) (by omega)

set_option maxHeartbeats 4000000 in
set_option maxRecDepth 20000 in
/-- OneRoofModel.goesOn -/
theorem sf_246_86x0 {L : Nat} {xs : Nat → Int} {vb : Bool} {d : Nat} {σ α : Nat → Nat → Int} {κ : Nat → Option Nat} {ρ : Nat} {x1 : Int} {x2 : Int} {x3 : Int} {g0 g1 : (Nat → Int) → Int} (hI : qI σ α κ ρ) (r1 : 0 ≤ x1 ∧ x1 ≤ 3131) (r2 : (-9223372036854775808) ≤ x2 ∧ x2 ≤ 9223372036854775807) (r3 : (-2147483648) ≤ x3 ∧ x3 ≤ 2147483647) (p0 : 1 ≤ σ 86 6) (p1 : x1 / 100 < σ 86 6 ∧ x1 % 100 < σ 86 6 ∧ ¬ x1 / 100 = x1 % 100) (p2 : qPG σ α 0 g0) (p3 : qPG σ α 1 g1) (p4 : qZf σ α) (p5 : qZk σ α) (p6 : σ 86 29 = 0) (p7 : σ 86 41 = 0) : qm_T (qe L xs vb) (d + 49) 246 [.ref 86, .int (qz x1), .long (ql x2), .int (qz x3), .int (qz 0)] (qw σ α κ ρ) (fun r w' => ∃ σ' α', w' = qw σ' α' κ ρ ∧ qI σ' α' κ ρ ∧ qFr [(86, 10), (86, 15), (86, 23), (86, 29), (86, 30), (86, 35), (86, 36), (86, 37), (86, 38), (86, 39), (86, 50), (86, 51)] [96, 109, 115, 116] σ α σ' α' ∧ r = none ∧ qTr σ' α' x2 (qtell (qHr σ α x3) (qBm σ α) (σ 86 24 : Int).toNat (qWr σ α g0 g1 x3) (σ 86 6) 30 (qland (qHr σ α x3) (qBm σ α) (σ 86 24 : Int).toNat ([], ql_and x2 (ql_xor (σ 86 10) (-1)), 0, []) x1)) ∧ σ' 86 51 = ((qtell (qHr σ α x3) (qBm σ α) (σ 86 24 : Int).toNat (qWr σ α g0 g1 x3) (σ 86 6) 30 (qland (qHr σ α x3) (qBm σ α) (σ 86 24 : Int).toNat ([], ql_and x2 (ql_xor (σ 86 10) (-1)), 0, []) x1))).2.1) := by
  refine qr_start (d := d + 48) qv_e246 (Nat.le_of_ble_eq_true rfl) ?_
  show qr_W (qe L xs vb) (d + 48) qx_e246 _ (0, [(0, .ref 86), (1, .int (qz x1)), (2, .long (ql x2)), (4, .int (qz x3)), (5, .int (qz 0))], [], _, 0, 0)
  have hF0 := qFr_rf [(86, 10), (86, 15), (86, 23), (86, 29), (86, 30), (86, 35), (86, 36), (86, 37), (86, 38), (86, 39), (86, 50), (86, 51)] [96, 109, 115, 116] σ α
  have hz86_6 : 0 ≤ σ 86 6 ∧ σ 86 6 ≤ 32 := hI.1 86 6
  have hz86_29 : (-9223372036854775808) ≤ σ 86 29 ∧ σ 86 29 ≤ 9223372036854775807 := hI.1 86 29
  have hz86_41 : 0 ≤ σ 86 41 ∧ σ 86 41 ≤ 1 := hI.1 86 41
  have hz86_10 : (-9223372036854775808) ≤ σ 86 10 ∧ σ 86 10 ≤ 9223372036854775807 := hI.1 86 10
  have hz86_24 : 0 ≤ σ 86 24 ∧ σ 86 24 ≤ 60 := hI.1 86 24
  have hz86_50 : 0 ≤ σ 86 50 ∧ σ 86 50 ≤ 31 := hI.1 86 50
  refine qr_aload_n 1 rfl rfl rfl ?_
  refine qr_iconst 2 rfl rfl ?_
  refine qr_put 5 rfl (by decide) rfl (Nat.le_of_ble_eq_true rfl) (Nat.le_of_ble_eq_true rfl) (Or.inl rfl) (qr_fitI rfl _) rfl ?_
  refine qy_wS (qw_s σ 86 50 0) rfl (fun σ1 e2 => ?_)
  have hI3 : qI σ1 α κ ρ := by rw [e2]; exact qI_s hI 86 50 rfl (show 0 ≤ 0 ∧ 0 ≤ 31 by omega)
  have hF4 : qFr [(86, 10), (86, 15), (86, 23), (86, 29), (86, 30), (86, 35), (86, 36), (86, 37), (86, 38), (86, 39), (86, 50), (86, 51)] [96, 109, 115, 116] σ α σ1 α := by rw [e2]; exact qFr_s hF0 86 50 _ (by decide)
  refine qr_iload_n 6 rfl rfl rfl ?_
  refine qr_istore _ 8 rfl (by decide) rfl rfl ?_
  have hL275 : ∀ (n : Nat) (ls : qm_L) (u264 : Int) (σ265 α266 : Nat → Nat → Int), ((31 - σ265 86 50).toNat : Int) < (n : Int) → qm_get ls 0 = some (.ref 86) → qm_get ls 2 = some (.long (ql x2)) → qm_get ls 4 = some (.int (qz x3)) → qm_get ls 5 = some (.int (qz 0)) → qm_get ls 6 = some (.int (qz u264)) → ((-1) ≤ u264 ∧ u264 ≤ 3131) → qI σ265 α266 κ ρ → qFr [(86, 10), (86, 15), (86, 23), (86, 29), (86, 30), (86, 35), (86, 36), (86, 37), (86, 38), (86, 39), (86, 50), (86, 51)] [96, 109, 115, 116] σ α σ265 α266 → σ265 86 6 = (σ 86 6) → σ265 86 24 = (σ 86 24) → σ265 86 41 = (σ 86 41) → (∃ s : qTS, qTr σ265 α266 x2 s ∧ σ265 86 29 = s.2.2.1 ∧ ((u264 < 0 ∧ s = (qtell (qHr σ α x3) (qBm σ α) (σ 86 24 : Int).toNat (qWr σ α g0 g1 x3) (σ 86 6) 30 (qland (qHr σ α x3) (qBm σ α) (σ 86 24 : Int).toNat ([], ql_and x2 (ql_xor (σ 86 10) (-1)), 0, []) x1))) ∨ (0 ≤ u264 ∧ qtell (qHr σ α x3) (qBm σ α) (σ 86 24 : Int).toNat (qWr σ α g0 g1 x3) (σ 86 6) (30 - σ265 86 50 : Int).toNat (qland (qHr σ α x3) (qBm σ α) (σ 86 24 : Int).toNat s u264) = (qtell (qHr σ α x3) (qBm σ α) (σ 86 24 : Int).toNat (qWr σ α g0 g1 x3) (σ 86 6) 30 (qland (qHr σ α x3) (qBm σ α) (σ 86 24 : Int).toNat ([], ql_and x2 (ql_xor (σ 86 10) (-1)), 0, []) x1))))) → (u264 = -1 ∨ (0 ≤ u264 ∧ u264 / 100 < σ 86 6 ∧ u264 % 100 < σ 86 6 ∧ ¬ u264 / 100 = u264 % 100 ∧ σ265 86 50 ≤ 30)) → qr_W (qe L xs vb) (d + 48) qx_e246 (fun r w' => ∃ σ' α', w' = qw σ' α' κ ρ ∧ qI σ' α' κ ρ ∧ qFr [(86, 10), (86, 15), (86, 23), (86, 29), (86, 30), (86, 35), (86, 36), (86, 37), (86, 38), (86, 39), (86, 50), (86, 51)] [96, 109, 115, 116] σ α σ' α' ∧ r = none ∧ qTr σ' α' x2 (qtell (qHr σ α x3) (qBm σ α) (σ 86 24 : Int).toNat (qWr σ α g0 g1 x3) (σ 86 6) 30 (qland (qHr σ α x3) (qBm σ α) (σ 86 24 : Int).toNat ([], ql_and x2 (ql_xor (σ 86 10) (-1)), 0, []) x1)) ∧ σ' 86 51 = ((qtell (qHr σ α x3) (qBm σ α) (σ 86 24 : Int).toNat (qWr σ α g0 g1 x3) (σ 86 6) 30 (qland (qHr σ α x3) (qBm σ α) (σ 86 24 : Int).toNat ([], ql_and x2 (ql_xor (σ 86 10) (-1)), 0, []) x1))).2.1) (8, ls, [], qw σ265 α266 κ ρ, 0, 0) := by
    intro n
    induction n with
    | zero => intro ls u264 σ265 α266 hm g259 g260 g261 g262 g263 hf272 hI267 hF268 hk269 hk270 hk271 hx273 hx274; exact False.elim (by omega)
    | succ n ih276 =>
      intro ls u264 σ265 α266 hm g259 g260 g261 g262 g263 hf272 hI267 hF268 hk269 hk270 hk271 hx273 hx274
      have hs277 : 0 ≤ σ265 86 50 ∧ σ265 86 50 ≤ 31 := hI267.1 86 50
      obtain ⟨s278, ht279, ht280, ht281⟩ := hx273
      refine qr_iload 10 rfl g263 rfl ?_
      refine qr_if_lt 56 13 rfl rfl rfl (by omega) (fun h282 => ?_) (fun h282 => ?_)
      · skip
        have ht283 := qgo_e ht281 (by omega)
        refine qr_aload_n 57 rfl g259 rfl ?_
        refine qr_lload_n 58 rfl g260 rfl ?_
        refine qr_aload_n 59 rfl g259 rfl ?_
        refine qr_get 62 rfl rfl rfl (by decide) rfl ?_
        have hs284 : (-9223372036854775808) ≤ σ265 86 10 ∧ σ265 86 10 ≤ 9223372036854775807 := hI267.1 86 10
        refine qr_ldc2 (-1) 65 rfl (by decide) rfl ?_
        refine qr_lxor 66 rfl rfl ?_
        refine qy_canlE (fun v285 hv285 hev285 => ?_)
        refine qr_land 67 rfl rfl ?_
        refine qy_canlE (fun v286 hv286 hev286 => ?_)
        refine qr_put 70 rfl (by decide) rfl (Nat.le_of_ble_eq_true rfl) (Nat.le_of_ble_eq_true rfl) (Or.inl rfl) (qr_fitL rfl _) rfl ?_
        refine qy_wS (qw_s σ265 86 51 v286) rfl (fun σ287 e288 => ?_)
        have hI289 : qI σ287 α266 κ ρ := by rw [e288]; exact qI_s hI267 86 51 rfl (show (-9223372036854775808) ≤ v286 ∧ v286 ≤ 9223372036854775807 by omega)
        have hF290 : qFr [(86, 10), (86, 15), (86, 23), (86, 29), (86, 30), (86, 35), (86, 36), (86, 37), (86, 38), (86, 39), (86, 50), (86, 51)] [96, 109, 115, 116] σ α σ287 α266 := by rw [e288]; exact qFr_s hF268 86 51 _ (by decide)
        have hk291 : σ287 86 50 = σ265 86 50 := (congrFun (congrFun e288 86) 50)
        have hk292 : σ287 86 6 = σ265 86 6 := (congrFun (congrFun e288 86) 6)
        have hk293 : σ287 86 10 = σ265 86 10 := (congrFun (congrFun e288 86) 10)
        refine qr_retV rfl rfl (by decide) (by decide) ?_
        exact ⟨_, _, rfl, hI289, hF290, rfl, (by rw [← ht283]; exact qTr_c (rfl) (rfl) (hk291) (hk292) (hk293) ht279), (by rw [← ht283, show σ287 86 51 = v286 from (congrFun (congrFun e288 86) 51).trans rfl, ql_val hev286 (by omega) (ql_and_r _ _), ql_val hev285 (by omega) (ql_xor_r _ _)]; exact ht279.2)⟩
      · skip
        have ht294 := qgo_u ht281 (by omega)
        refine qr_aload_n 14 rfl g259 rfl ?_
        refine qr_iload 16 rfl g263 rfl ?_
        refine qr_bipush 18 rfl (by decide) rfl ?_
        refine qr_idiv 19 rfl (by omega) (by omega) rfl ?_
        refine qr_iload 21 rfl g263 rfl ?_
        refine qr_bipush 23 rfl (by decide) rfl ?_
        refine qr_irem 24 rfl (by omega) (by omega) rfl ?_
        refine qr_iload 26 rfl g261 rfl ?_
        refine qr_iload 28 rfl g262 rfl ?_
        have hs295 : (-9223372036854775808) ≤ σ265 86 29 ∧ σ265 86 29 ≤ 9223372036854775807 := hI267.1 86 29
        have hs296 : 0 ≤ σ265 86 50 ∧ σ265 86 50 ≤ 31 := hI267.1 86 50
        have hs297 : 0 ≤ σ265 86 6 ∧ σ265 86 6 ≤ 32 := hI267.1 86 6
        have hs298 : σ265 86 6 = (σ 86 6) := (hk269).trans rfl
        refine qr_callN 31 rfl rfl rfl (sf_247_86x0 (d := d + 44) hI267 (by omega) (by omega) (by omega) (by omega) (qZk_fr hF268 (by decide) (by decide) p5) (by omega) (by omega) ht279 ht280) ?_
        rintro _ _ ⟨σ302, α303, rfl, hI304, hG305, hw301, rfl, hx299, hx300⟩
        have hF306 : qFr [(86, 10), (86, 15), (86, 23), (86, 29), (86, 30), (86, 35), (86, 36), (86, 37), (86, 38), (86, 39), (86, 50), (86, 51)] [96, 109, 115, 116] σ α σ302 α303 := qFr_t hF268 hG305 (by decide) (by decide)
        have hs307 : 0 ≤ σ302 86 50 ∧ σ302 86 50 ≤ 31 := hI304.1 86 50
        rw [hF268.1 86 24 (by decide)] at hx299
        rw [hF268.1 86 24 (by decide)] at hx300
        show qr_W (qe L xs vb) (d + 48) qx_e246 _ (31, _, [], qw σ302 α303 κ ρ, 0, 0)
        rw [qHr_fr hF268 (by decide), qBm_fr hF268 (by decide), show 100 * (u264 / 100) + u264 % 100 = u264 by omega] at hx299
        rw [qHr_fr hF268 (by decide), qBm_fr hF268 (by decide), show 100 * (u264 / 100) + u264 % 100 = u264 by omega] at hx300
        have hc308 : σ302 86 50 = σ265 86 50 + 1 := hw301
        refine qr_aload_n 32 rfl g259 rfl ?_
        refine qr_get 35 rfl rfl rfl (by decide) rfl ?_
        refine qr_bipush 37 rfl (by decide) rfl ?_
        refine qr_icmp_ne 44 40 rfl rfl rfl (by omega) (by omega) (fun h309 => ?_) (fun h309 => ?_)
        · skip
          refine qr_aload_n 45 rfl g259 rfl ?_
          refine qr_lload_n 46 rfl g260 rfl ?_
          refine qr_iload 48 rfl g261 rfl ?_
          have hs310 : 0 ≤ σ302 86 50 ∧ σ302 86 50 ≤ 31 := hI304.1 86 50
          have hs311 : 0 ≤ σ302 86 6 ∧ σ302 86 6 ≤ 32 := hI304.1 86 6
          have hs312 : σ302 86 6 = (σ 86 6) := (hG305.1 86 6 (by decide)).trans ((hk269).trans rfl)
          refine qr_callN 51 rfl rfl rfl (sf_248_86x (d := d + 0) hI304 (by omega) (by omega) (qPG_fr hF306 (by decide) (by decide) p2) (qPG_fr hF306 (by decide) (by decide) p3) (qZf_fr hF306 (by decide) (by decide) p4) (qZk_fr hF306 (by decide) (by decide) p5) (qTr_on hx299)) ?_
          rintro _ _ ⟨σ316, α317, rfl, hI318, hG319, v313, rfl, hv313, hp314, hx315⟩
          have hF320 : qFr [(86, 10), (86, 15), (86, 23), (86, 29), (86, 30), (86, 35), (86, 36), (86, 37), (86, 38), (86, 39), (86, 50), (86, 51)] [96, 109, 115, 116] σ α σ316 α317 := qFr_t hF306 hG319 (by decide) (by decide)
          rw [hF306.1 86 6 (by decide)] at hx315
          show qr_W (qe L xs vb) (d + 48) qx_e246 _ (51, _, [.int (qz v313)], qw σ316 α317 κ ρ, 0, 0)
          have hq321 := qtr_n (σ := σ) (α := α) hx299 (qtr_v (qNVr_fr hF306 (by decide) (by decide)) p7 (by omega) hx299 hx300) (by omega) hx315
          have hq322 := qtr_r (by omega) hx315
          have hq323 := qTr_c (hG319.2 115 (by decide)) (hG319.2 116 (by decide)) (hG319.1 86 50 (by decide)) (hG319.1 86 6 (by decide)) (hG319.1 86 10 (by decide)) hx299
          have hq324 := (hG319.1 86 29 (by decide)).trans hx300
          have hq325 := hG319.1 86 50 (by decide)
          refine qr_istore _ 53 rfl (by decide) rfl rfl ?_
          refine qr_goto 8 rfl rfl ?_
          exact ih276 _ v313 σ316 α317 (by have hw0 : σ316 86 50 = (σ302 86 50) := (hG319.1 86 50 (by decide)).trans rfl; omega) (qm_gk g259 (by decide) (Or.inl (by decide))) (qm_gk g260 (by decide) (Or.inl (by decide))) (qm_gk g261 (by decide) (Or.inl (by decide))) (qm_gk g262 (by decide) (Or.inr rfl)) (qm_ge _ _ _) (by omega) hI318 hF320 ((hG319.1 86 6 (by decide)).trans ((hG305.1 86 6 (by decide)).trans ((hk269).trans rfl))) ((hG319.1 86 24 (by decide)).trans ((hG305.1 86 24 (by decide)).trans ((hk270).trans rfl))) ((hG319.1 86 41 (by decide)).trans ((hG305.1 86 41 (by decide)).trans ((hk271).trans rfl))) ⟨_, hq323, hq324, qgo_b (by omega) (by omega) hq321 ht294⟩ (by have hr := hq322; omega)
        · skip
          refine qr_iconst 41 rfl rfl ?_
          refine qr_goto 51 rfl rfl ?_
          refine qr_istore _ 53 rfl (by decide) rfl rfl ?_
          refine qr_goto 8 rfl rfl ?_
          exact ih276 _ (-1) σ302 α303 (by have hw0 : σ302 86 50 = (σ302 86 50) := rfl; omega) (qm_gk g259 (by decide) (Or.inl (by decide))) (qm_gk g260 (by decide) (Or.inl (by decide))) (qm_gk g261 (by decide) (Or.inl (by decide))) (qm_gk g262 (by decide) (Or.inr rfl)) (qm_ge _ _ _) (by omega) hI304 hF306 ((hG305.1 86 6 (by decide)).trans ((hk269).trans rfl)) ((hG305.1 86 24 (by decide)).trans ((hk270).trans rfl)) ((hG305.1 86 41 (by decide)).trans ((hk271).trans rfl)) ⟨_, hx299, hx300, Or.inl ⟨by omega, qgo_a (by omega) ht294⟩⟩ (Or.inl rfl)
  exact hL275 ((((31 - σ1 86 50).toNat : Int) + 1 : Int)).toNat _ x1 σ1 α (by have hw0 : σ1 86 50 = 0 := (congrFun (congrFun e2 86) 50).trans rfl; omega) rfl rfl rfl rfl rfl (by omega) hI3 hF4 ((congrFun (congrFun e2 86) 6).trans rfl) ((congrFun (congrFun e2 86) 24).trans rfl) ((congrFun (congrFun e2 86) 41).trans rfl) ⟨_, qTr_0 ((congrFun (congrFun e2 86) 50).trans rfl) ((congrFun (congrFun e2 86) 10).trans rfl), ((congrFun (congrFun e2 86) 29).trans rfl).trans p6, Or.inr ⟨by omega, by rw [show σ1 86 50 = 0 from (congrFun (congrFun e2 86) 50).trans rfl]; rfl⟩⟩ (by have hw : σ1 86 50 = 0 := (congrFun (congrFun e2 86) 50).trans rfl; omega)
