/-! two tellings alike -/
theorem qland_cg {H H' : Int → Int → Int → Nat → Int} {B B' : Int → Nat → Int} {n : Nat} {s : qTS} {v : Int} (hH : ∀ k : Nat, k < n → H s.2.2.1 (v / 100) (v % 100) k = H' s.2.2.1 (v / 100) (v % 100) k) (hB : ∀ k : Nat, k < n → B (v / 100) k = B' (v / 100) k) : qland H B n s v = qland H' B' n s v := by
  have e : ∀ k : Nat, k < n → qPk (H s.2.2.1 (v / 100) (v % 100)) (B (v / 100)) k = qPk (H' s.2.2.1 (v / 100) (v % 100)) (B' (v / 100)) k := fun k hk => by
    unfold qPk
    rw [hH k hk, hB k hk]
  unfold qland
  rw [qbs_eq n e, qBr_eq n e]
def qTP (N : Int) (s : qTS) : Prop := ∀ (j : Nat) (h : j < s.1.length), 0 ≤ s.1[j] % 100 ∧ s.1[j] % 100 < N
theorem qTP_land {H : Int → Int → Int → Nat → Int} {B : Int → Nat → Int} {n : Nat} {s : qTS} {v N : Int} (hv : v % 100 < N) (h : qTP N s) : qTP N (qland H B n s v) := fun j hj => by
  have hj2 : j < (s.1 ++ [v]).length := hj
  have hlen : (s.1 ++ [v]).length = s.1.length + 1 := List.length_append
  show 0 ≤ (s.1 ++ [v])[j]'hj2 % 100 ∧ (s.1 ++ [v])[j]'hj2 % 100 < N
  by_cases c : j < s.1.length
  · have e : (s.1 ++ [v])[j]'hj2 = s.1[j] := List.getElem_append_left c
    rw [e]
    exact h j c
  · have e : (s.1 ++ [v])[j]'hj2 = v := by
      rw [List.getElem_append_right (show s.1.length ≤ j by omega)]
      simp
    rw [e]
    omega
theorem qnext_cg {W W' : Int → Int → Int → Int → Int → Int → Int} {N : Int} {s : qTS} (hN : N ≤ 32) (hP : qTP N s) (h1 : ∀ b p q st t : Int, 0 ≤ p → p < N → 0 ≤ q → q < N → ¬ p = q → 0 ≤ st → st < N → W 1 b p q st t = W' 1 b p q st t) (h0 : ∀ b p q t : Int, 0 ≤ p → p < N → 0 ≤ q → q < N → ¬ p = q → W 0 b p q (-1) t = W' 0 b p q (-1) t) : qnext W N s = qnext W' N s := by
  have e1 : qfst (qkC1 W s) N = qfst (qkC1 W' s) N := qfst_of hN (qFst_eq (fun p q k1 k2 k3 k4 => by
    constructor
    · rintro ⟨c1, c2, c3, i, hi, c4, c5⟩
      refine ⟨c1, c2, c3, i, hi, c4, ?_⟩
      rw [h1 _ _ _ _ _ k1 k2 k3 k4 c1 (hP i hi).1 (hP i hi).2]
      exact c5
    · rintro ⟨c1, c2, c3, i, hi, c4, c5⟩
      refine ⟨c1, c2, c3, i, hi, c4, ?_⟩
      rw [← h1 _ _ _ _ _ k1 k2 k3 k4 c1 (hP i hi).1 (hP i hi).2]
      exact c5) (qFst_ex (qkC1 W' s) N hN))
  have e0 : qfst (qkC0 W s) N = qfst (qkC0 W' s) N := qfst_of hN (qFst_eq (fun p q k1 k2 k3 k4 => by
    constructor
    · rintro ⟨c1, c2, c3, c4⟩
      exact ⟨c1, c2, c3, by rw [h0 _ _ _ _ k1 k2 k3 k4 c1]; exact c4⟩
    · rintro ⟨c1, c2, c3, c4⟩
      exact ⟨c1, c2, c3, by rw [← h0 _ _ _ _ k1 k2 k3 k4 c1]; exact c4⟩) (qFst_ex (qkC0 W' s) N hN))
  unfold qnext
  rw [e1, e0]
theorem qnext_r {W : Int → Int → Int → Int → Int → Int → Int} {N : Int} {s : qTS} (hN : N ≤ 32) (h : ¬ qnext W N s < 0) : (0 ≤ qnext W N s / 100 ∧ qnext W N s / 100 < N) ∧ (0 ≤ qnext W N s % 100 ∧ qnext W N s % 100 < N) ∧ ¬ qnext W N s / 100 = qnext W N s % 100 := by
  have a := qFst_ex (qkC1 W s) N hN
  have b := qFst_ex (qkC0 W s) N hN
  by_cases c : qfst (qkC1 W s) N < 0
  · have e : qnext W N s = qfst (qkC0 W s) N := if_pos c
    rw [e] at h ⊢
    rcases b with b | ⟨b1, b2, _⟩
    · exact absurd b.1 (by omega)
    · exact ⟨by omega, by omega, b2.1⟩
  · have e : qnext W N s = qfst (qkC1 W s) N := if_neg c
    rw [e] at h ⊢
    rcases a with a | ⟨a1, a2, _⟩
    · exact absurd a.1 (by omega)
    · exact ⟨by omega, by omega, a2.1⟩
theorem qtell_cg {H H' : Int → Int → Int → Nat → Int} {B B' : Int → Nat → Int} {n : Nat} {W W' : Int → Int → Int → Int → Int → Int → Int} {N : Int} (hN : N ≤ 32) (hH : ∀ b p q : Int, 0 ≤ p → p < N → 0 ≤ q → q < N → ¬ p = q → ∀ k : Nat, k < n → H b p q k = H' b p q k) (hB : ∀ p : Int, 0 ≤ p → p < N → ∀ k : Nat, k < n → B p k = B' p k) (h1 : ∀ b p q st t : Int, 0 ≤ p → p < N → 0 ≤ q → q < N → ¬ p = q → 0 ≤ st → st < N → W 1 b p q st t = W' 1 b p q st t) (h0 : ∀ b p q t : Int, 0 ≤ p → p < N → 0 ≤ q → q < N → ¬ p = q → W 0 b p q (-1) t = W' 0 b p q (-1) t) : ∀ (k : Nat) (s : qTS), qTP N s → qtell H B n W N k s = qtell H' B' n W' N k s
  | 0, _, _ => rfl
  | k + 1, s, hP => by
    have e := qnext_cg hN hP h1 h0
    by_cases c : qnext W N s < 0
    · rw [show qtell H B n W N (k + 1) s = s from if_pos c, show qtell H' B' n W' N (k + 1) s = s from if_pos (by rw [← e]; exact c)]
    · have r := qnext_r hN c
      rw [show qtell H B n W N (k + 1) s = qtell H B n W N k (qland H B n s (qnext W N s)) from if_neg c, show qtell H' B' n W' N (k + 1) s = qtell H' B' n W' N k (qland H' B' n s (qnext W' N s)) from if_neg (by rw [← e]; exact c), ← e]
      rw [qland_cg (H' := H') (B' := B') (fun j hj => hH _ _ _ r.1.1 r.1.2 r.2.1.1 r.2.1.2 r.2.2 j hj) (fun j hj => hB _ r.1.1 r.1.2 j hj)]
      exact qtell_cg hN hH hB h1 h0 k _ (qTP_land r.2.1.2 hP)
theorem qtell_cl {H H' : Int → Int → Int → Nat → Int} {B B' : Int → Nat → Int} {n : Nat} {W W' : Int → Int → Int → Int → Int → Int → Int} {N v : Int} (hN : N ≤ 32) (hv : (0 ≤ v / 100 ∧ v / 100 < N) ∧ (0 ≤ v % 100 ∧ v % 100 < N) ∧ ¬ v / 100 = v % 100) (hH : ∀ b p q : Int, 0 ≤ p → p < N → 0 ≤ q → q < N → ¬ p = q → ∀ k : Nat, k < n → H b p q k = H' b p q k) (hB : ∀ p : Int, 0 ≤ p → p < N → ∀ k : Nat, k < n → B p k = B' p k) (h1 : ∀ b p q st t : Int, 0 ≤ p → p < N → 0 ≤ q → q < N → ¬ p = q → 0 ≤ st → st < N → W 1 b p q st t = W' 1 b p q st t) (h0 : ∀ b p q t : Int, 0 ≤ p → p < N → 0 ≤ q → q < N → ¬ p = q → W 0 b p q (-1) t = W' 0 b p q (-1) t) (t : Int) : qtell H B n W N 30 (qland H B n ([], t, 0, []) v) = qtell H' B' n W' N 30 (qland H' B' n ([], t, 0, []) v) := by
  rw [qland_cg (H' := H') (B' := B') (fun j hj => hH _ _ _ hv.1.1 hv.1.2 hv.2.1.1 hv.2.1.2 hv.2.2 j hj) (fun j hj => hB _ hv.1.1 hv.1.2 j hj)]
  exact qtell_cg hN hH hB h1 h0 30 _ (qTP_land hv.2.1.2 (fun j hj => absurd hj (Nat.not_lt_zero j)))
