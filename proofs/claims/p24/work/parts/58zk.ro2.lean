section
/-! each call, on both sides -/
theorem qps_ge {T : Type} {st : T → Int → Int → Int → Int → T} {f : Nat → Int} {b len i : Int} : ∀ (n : Nat) (c s : Int) (t : T), s ≤ (qps st f b len i n c s t).2.1 := by
  intro n
  induction n with
  | zero => intro c s t; rw [qps_0 rfl]; exact Int.le_refl _
  | succ n ih =>
    intro c s t
    by_cases hc : qpc f b len i c s
    · rw [qps_go hc rfl]
      exact Int.le_trans (show s ≤ s + 1 by omega) (ih _ _ _)
    · rw [qps_stop hc]
      exact Int.le_refl _
theorem qCh_kn : ∀ (l : List Int) (h : qHS), (0 ≤ h.2.2.2.2.1 ∧ h.2.2.2.2.1 ≤ 40) → qCh h → qCh (qkn l h)
  | [], _, _, hc => hc
  | x :: l, h, hd, hc => by
    have e : qkn (x :: l) h = qkn l (qbec h (192 + x) 6) := rfl
    rw [e]
    refine qCh_kn l _ ?_ (qCh_bec hd hc)
    by_cases c : h.1 (192 + x).toNat = 6
    · rw [show qbec h (192 + x) 6 = h from if_pos c]
      exact hd
    · rw [show qbec h (192 + x) 6 = _ from if_neg c]
      show 0 ≤ qdo h.2.2.2.2.1 + 1 ∧ qdo h.2.2.2.2.1 + 1 ≤ 40
      unfold qdo
      split <;> omega
theorem qtell_len {H : Int → Int → Int → Nat → Int} {B : Int → Nat → Int} {n : Nat} {W : Int → Int → Int → Int → Int → Int → Int} {N : Int} : ∀ (k : Nat) (s : qTS), s.1.length ≤ (qtell H B n W N k s).1.length
  | 0, _ => Nat.le_refl _
  | k + 1, s => by
    by_cases c : qnext W N s < 0
    · rw [show qtell H B n W N (k + 1) s = s from if_pos c]
      exact Nat.le_refl _
    · rw [show qtell H B n W N (k + 1) s = qtell H B n W N k (qland H B n s (qnext W N s)) from if_neg c]
      have h := qtell_len k (qland H B n s (qnext W N s)) (H := H) (B := B) (n := n) (W := W) (N := N)
      have hl : (qland H B n s (qnext W N s)).1.length = s.1.length + 1 := List.length_append
      omega
theorem qFINm_fr {S : List (Nat × Nat)} {R : List Nat} {σ α σ' α' : Nat → Nat → Int} (hG : qFr S R σ α σ' α') (hs : [(86, 6), (86, 11), (86, 16), (86, 22), (86, 24), (86, 41)].all (fun x => !S.contains x) = true) (hr : [87, 91, 94, 95, 97, 98, 99, 100, 102, 103, 104, 105].all (fun x => !R.contains x) = true) : qFINm σ' α' = qFINm σ α := by
  have es : ∀ a k, (a, k) ∈ [(86, 6), (86, 11), (86, 16), (86, 22), (86, 24), (86, 41)] → σ' a k = σ a k := fun a k hm => hG.1 a k (fun hn => by
    have h1 := List.all_eq_true.mp hs (a, k) hm
    rw [List.contains_iff_mem.mpr hn] at h1
    exact absurd h1 (by decide))
  have er : ∀ a, a ∈ [87, 91, 94, 95, 97, 98, 99, 100, 102, 103, 104, 105] → α' a = α a := fun a hm => hG.2 a (fun hn => by
    have h1 := List.all_eq_true.mp hr a hm
    rw [List.contains_iff_mem.mpr hn] at h1
    exact absurd h1 (by decide))
  have h1 : qHr σ' α' = qHr σ α := by
    unfold qHr
    rw [er 87 (by decide), er 91 (by decide), er 102 (by decide), er 103 (by decide), er 104 (by decide), er 105 (by decide)]
  have h2 : qBm σ' α' = qBm σ α := by
    unfold qBm
    rw [er 87 (by decide), er 102 (by decide)]
  have h3 : qNVr σ' α' = qNVr σ α := by
    unfold qNVr
    rw [es 86 6 (by decide), es 86 11 (by decide), es 86 16 (by decide), es 86 22 (by decide), es 86 24 (by decide), es 86 41 (by decide), er 87 (by decide), er 91 (by decide), er 94 (by decide), er 95 (by decide), er 97 (by decide), er 98 (by decide), er 99 (by decide), er 100 (by decide), er 102 (by decide), er 103 (by decide), er 104 (by decide), er 105 (by decide)]
  unfold qFINm
  rw [h1, h2, qWr_e h3, es 86 6 (by decide), es 86 24 (by decide)]
theorem qwF_cg {D D' : Int → Prop} {c c' : Int → Int} {w : Int} (hD : ∀ u, D u ↔ D' u) (hc : ∀ u, D u → c u = c' u) (h : qwF D c w) : qwF D' c' w := by
  rcases h with ⟨h1, h2⟩ | ⟨h1, h2⟩
  · exact Or.inl ⟨h1, fun u hu => h2 u ((hD u).mpr hu)⟩
  · refine Or.inr ⟨(hD w).mp h1, fun u hu => ?_⟩
    have h3 := (hD u).mpr hu
    rw [← hc w h1, ← hc u h3]
    exact h2 u h3
theorem ro_ch {σ α σ1 α1 σ2 α2 : Nat → Nat → Int} {s p v a w : Int} (hH : qRH σ α) (hG1 : qFr [(76, 7), (76, 8)] [20, 33, 35, 41, 77, 78, 79, 80] σ α σ1 α1) (hG2 : qFr [(86, 4), (86, 5)] [87, 88, 89, 90] σ1 α1 σ2 α2) (hx : qHq σ1 α1 (qbec (α 87, α 88, α 89, α 90, σ 86 5, σ 86 4) (qat s p) (qwd (α 87) s p v))) (ea : a = qat s p) (ew : w = qwd (α 87) s p v)
    (hy : α2 87 = (qbec (α1 87, α1 88, α1 89, α1 90, σ1 86 5, σ1 86 4) a w).1 ∧ α2 88 = (qbec (α1 87, α1 88, α1 89, α1 90, σ1 86 5, σ1 86 4) a w).2.1 ∧ α2 89 = (qbec (α1 87, α1 88, α1 89, α1 90, σ1 86 5, σ1 86 4) a w).2.2.1 ∧ α2 90 = (qbec (α1 87, α1 88, α1 89, α1 90, σ1 86 5, σ1 86 4) a w).2.2.2.1 ∧ σ2 86 5 = (qbec (α1 87, α1 88, α1 89, α1 90, σ1 86 5, σ1 86 4) a w).2.2.2.2.1 ∧ σ2 86 4 = (qbec (α1 87, α1 88, α1 89, α1 90, σ1 86 5, σ1 86 4) a w).2.2.2.2.2) : qRH σ2 α2 := by
  have e := qdd_tup hy
  rw [hG1.2 87 (by decide), hG1.2 88 (by decide), hG1.2 89 (by decide), hG1.2 90 (by decide), hG1.1 86 5 (by decide), hG1.1 86 4 (by decide), ea, ew] at e
  unfold qRH
  rw [e]
  exact ⟨qHq_fr hG2 (by decide) (by decide) hx, qCh_bec ⟨hH.1.2.2.1.1, Int.le_trans hH.1.2.2.1.2.1 hH.1.2.2.1.2.2⟩ hH.2⟩
theorem ro_cs {S1 S2 : List (Nat × Nat)} {R1 R2 : List Nat} {σ α σ1 α1 σ2 α2 : Nat → Nat → Int} (hH : qRH σ α) (hG1 : qFr S1 R1 σ α σ1 α1) (h1 : [(86, 4), (86, 5)].all (fun x => !S1.contains x) = true) (h1r : [87, 88, 89, 90].all (fun x => !R1.contains x) = true) (hG2 : qFr S2 R2 σ1 α1 σ2 α2) (h2 : [(17, 6), (27, 7), (34, 7), (76, 7), (76, 8)].all (fun x => !S2.contains x) = true) (h2r : [20, 33, 35, 38, 39, 40, 41, 77, 78, 79, 80].all (fun x => !R2.contains x) = true) (hx : qHq σ1 α1 (α 87, α 88, α 89, α 90, σ 86 5, σ 86 4)) (hy : α2 87 = α1 87 ∧ α2 88 = α1 88 ∧ α2 89 = α1 89 ∧ α2 90 = α1 90 ∧ σ2 86 5 = σ1 86 5 ∧ σ2 86 4 = σ1 86 4) : qRH σ2 α2 := by
  have es : ∀ a k, (a, k) ∈ [(86, 4), (86, 5)] → σ1 a k = σ a k := fun a k hm => hG1.1 a k (fun hn => by
    have h3 := List.all_eq_true.mp h1 (a, k) hm
    rw [List.contains_iff_mem.mpr hn] at h3
    exact absurd h3 (by decide))
  have er : ∀ a, a ∈ [87, 88, 89, 90] → α1 a = α a := fun a hm => hG1.2 a (fun hn => by
    have h3 := List.all_eq_true.mp h1r a hm
    rw [List.contains_iff_mem.mpr hn] at h3
    exact absurd h3 (by decide))
  unfold qRH
  rw [hy.1, hy.2.1, hy.2.2.1, hy.2.2.2.1, hy.2.2.2.2.1, hy.2.2.2.2.2, er 87 (by decide), er 88 (by decide), er 89 (by decide), er 90 (by decide), es 86 5 (by decide), es 86 4 (by decide)]
  exact ⟨qHq_fr hG2 h2 h2r hx, hH.2⟩

set_option maxHeartbeats 4000000 in
theorem ro_person {σ α σ1 α1 σ2 α2 : Nat → Nat → Int} {κ : Nat → Option Nat} {ρ : Nat} {x1 x2 x3 v1 v2 : Int}  (hI : qI σ α κ ρ) (hR : qR σ α) (hF : qRF σ α) (hH : qRH σ α) (hL : qRL σ α) (hG1 : qFr [(17, 6)] [18, 19, 20, 22] σ α σ1 α1) (hG2 : qFr [(86, 6), (86, 15)] [87, 91, 92] σ1 α1 σ2 α2) (hx0 : ((v1 = -1 ∧ ¬ ((x1 = -1 ∨ (0 ≤ x1 ∧ x1 < σ 17 6)) ∧ 1 ≤ x2 ∧ x2 ≤ 99 ∧ (x3 = 0 ∨ x3 = 1)) ∧ σ1 17 6 = σ 17 6 ∧ (α1 18, α1 19, α1 20, α1 22) = (α 18, α 19, α 20, α 22)) ∨ (v1 = -3 ∧ ((x1 = -1 ∨ (0 ≤ x1 ∧ x1 < σ 17 6)) ∧ 1 ≤ x2 ∧ x2 ≤ 99 ∧ (x3 = 0 ∨ x3 = 1)) ∧ 32 ≤ σ 17 6 ∧ σ1 17 6 = σ 17 6 ∧ (α1 18, α1 19, α1 20, α1 22) = (α 18, α 19, α 20, α 22)) ∨ (v1 = σ 17 6 ∧ ((x1 = -1 ∨ (0 ≤ x1 ∧ x1 < σ 17 6)) ∧ 1 ≤ x2 ∧ x2 ≤ 99 ∧ (x3 = 0 ∨ x3 = 1)) ∧ σ 17 6 < 32 ∧ σ1 17 6 = σ 17 6 + 1 ∧ (α1 18, α1 19, α1 20, α1 22) = qstc (α 18, α 19, α 20, α 22) (σ 17 6) x1 x2 x3))) (hy0 : ((v2 = -1 ∧ ¬ ((x1 = -1 ∨ (0 ≤ x1 ∧ x1 < σ1 86 6)) ∧ 1 ≤ x2 ∧ x2 ≤ 99 ∧ (x3 = 0 ∨ x3 = 1)) ∧ σ2 86 6 = σ1 86 6 ∧ (α2 91, α2 92, α2 87) = (α1 91, α1 92, α1 87)) ∨ (v2 = -3 ∧ ((x1 = -1 ∨ (0 ≤ x1 ∧ x1 < σ1 86 6)) ∧ 1 ≤ x2 ∧ x2 ≤ 99 ∧ (x3 = 0 ∨ x3 = 1)) ∧ 32 ≤ σ1 86 6 ∧ σ2 86 6 = σ1 86 6 ∧ (α2 91, α2 92, α2 87) = (α1 91, α1 92, α1 87)) ∨ (v2 = σ1 86 6 ∧ ((x1 = -1 ∨ (0 ≤ x1 ∧ x1 < σ1 86 6)) ∧ 1 ≤ x2 ∧ x2 ≤ 99 ∧ (x3 = 0 ∨ x3 = 1)) ∧ σ1 86 6 < 32 ∧ σ2 86 6 = σ1 86 6 + 1 ∧ (α2 91, α2 92, α2 87) = qstm (α1 91, α1 92, α1 87) (σ1 86 6) x1 x2 x3)))  : v1 = v2 ∧ σ1 86 6 ≤ σ2 86 6 ∧ qR σ2 α2 ∧ qRF σ2 α2 ∧ qRH σ2 α2 ∧ qRL σ2 α2 := by
  have b6 : 0 ≤ σ 86 6 ∧ σ 86 6 ≤ 32 := hI.1 86 6
  have b16 : 0 ≤ σ 86 16 ∧ σ 86 16 ≤ 40 := hI.1 86 16
  have b24 : 0 ≤ σ 86 24 ∧ σ 86 24 ≤ 60 := hI.1 86 24
  have e6 := hR.1
  have e16 := hR.2.1
  have e24 := hR.2.2.1
  have c6 : σ1 86 6 = σ 86 6 := hG1.1 86 6 (by decide)
  have c91 := hG1.2 91 (by decide)
  have c92 := hG1.2 92 (by decide)
  have c87 := hG1.2 87 (by decide)
  have d6 : σ2 17 6 = σ1 17 6 := hG2.1 17 6 (by decide)
  have d18 := hG2.2 18 (by decide)
  have d19 := hG2.2 19 (by decide)
  have d20 := hG2.2 20 (by decide)
  have d22 := hG2.2 22 (by decide)
  have hG : qFr [(17, 6), (86, 6), (86, 15)] [18, 19, 20, 22, 87, 91, 92] σ α σ2 α2 := qFr_tr hG1 hG2
  have h0 := qPP_0 hI hR hH hL
  rw [c91, c92, c87] at hy0
  rcases hx0 with ⟨x1', x2', x3', x4'⟩ | ⟨x1', x2', x3', x4', x5'⟩ | ⟨x1', x2', x3', x4', x5'⟩
  · rcases hy0 with ⟨y1, y2, y3, y4⟩ | ⟨y1, y2, y3, y4, y5⟩ | ⟨y1, y2, y3, y4, y5⟩
    · exact ⟨by omega, by omega, ro_pp hR hF h0 hG (by omega) (by omega) (by rw [d18, d19, d20, d22]; exact x4') (y4)⟩
    · exact False.elim (by omega)
    · exact False.elim (by omega)
  · rcases hy0 with ⟨y1, y2, y3, y4⟩ | ⟨y1, y2, y3, y4, y5⟩ | ⟨y1, y2, y3, y4, y5⟩
    · exact False.elim (by omega)
    · exact ⟨by omega, by omega, ro_pp hR hF h0 hG (by omega) (by omega) (by rw [d18, d19, d20, d22]; exact x5') (y5)⟩
    · exact False.elim (by omega)
  · rcases hy0 with ⟨y1, y2, y3, y4⟩ | ⟨y1, y2, y3, y4, y5⟩ | ⟨y1, y2, y3, y4, y5⟩
    · exact False.elim (by omega)
    · exact False.elim (by omega)
    · have hs := qPP_s (by omega) (by omega) (σ 17 6) _ _ x1 x2 x3 (by omega) (by omega) (by unfold qfit; omega) h0
      rw [c6, ← e6] at y5
      exact ⟨by omega, by omega, ro_pp hR hF hs hG (by omega) (by omega) (by rw [d18, d19, d20, d22]; exact x5') y5⟩

set_option maxHeartbeats 4000000 in
theorem ro_people {σ α σ1 α1 σ2 α2 : Nat → Nat → Int} {κ : Nat → Option Nat} {ρ : Nat} {x1 x2 x3 v1 v2 : Int}  (hI : qI σ α κ ρ) (hR : qR σ α) (hF : qRF σ α) (hH : qRH σ α) (hL : qRL σ α) (hG1 : qFr [(17, 6)] [18, 19, 20, 22] σ α σ1 α1) (hG2 : qFr [(86, 6), (86, 15)] [87, 91, 92] σ1 α1 σ2 α2) (hx0 : ((v1 = -1 ∧ ¬ (0 ≤ x1 ∧ x1 ≤ 5 ∧ 1 ≤ x3 ∧ x3 ≤ 20) ∧ σ1 17 6 = σ 17 6 ∧ (α1 18, α1 19, α1 20, α1 22) = (α 18, α 19, α 20, α 22)) ∨ (v1 = 0 ∧ (0 ≤ x1 ∧ x1 ≤ 5 ∧ 1 ≤ x3 ∧ x3 ≤ 20) ∧ α 45 (x1 : Int).toNat = 6 ∧ σ1 17 6 = σ 17 6 ∧ (α1 18, α1 19, α1 20, α1 22) = (α 18, α 19, α 20, α 22)) ∨ (v1 = -12 ∧ (0 ≤ x1 ∧ x1 ≤ 5 ∧ 1 ≤ x3 ∧ x3 ≤ 20) ∧ (¬ α 45 (x1 : Int).toNat = 6 ∧ ¬ α 45 (x1 : Int).toNat = 0) ∧ σ1 17 6 = σ 17 6 ∧ (α1 18, α1 19, α1 20, α1 22) = (α 18, α 19, α 20, α 22)) ∨ ((0 ≤ x1 ∧ x1 ≤ 5 ∧ 1 ≤ x3 ∧ x3 ≤ 20) ∧ α 45 (x1 : Int).toNat = 0 ∧ (v1, σ1 17 6, (α1 18, α1 19, α1 20, α1 22)) = qps qstc (α 48) (x1 * 60) (α 46 (x1 : Int).toNat) x2 (x3 : Int).toNat 0 (σ 17 6) (α 18, α 19, α 20, α 22)))) (hy0 : ((v2 = -1 ∧ ¬ (0 ≤ x1 ∧ x1 ≤ 5 ∧ 1 ≤ x3 ∧ x3 ≤ 20) ∧ σ2 86 6 = σ1 86 6 ∧ (α2 91, α2 92, α2 87) = (α1 91, α1 92, α1 87)) ∨ (v2 = 0 ∧ (0 ≤ x1 ∧ x1 ≤ 5 ∧ 1 ≤ x3 ∧ x3 ≤ 20) ∧ α1 121 (x1 : Int).toNat < 0 ∧ σ2 86 6 = σ1 86 6 ∧ (α2 91, α2 92, α2 87) = (α1 91, α1 92, α1 87)) ∨ (v2 = -12 ∧ (0 ≤ x1 ∧ x1 ≤ 5 ∧ 1 ≤ x3 ∧ x3 ≤ 20) ∧ (0 ≤ α1 121 (x1 : Int).toNat ∧ ¬ α1 121 (x1 : Int).toNat = 60) ∧ σ2 86 6 = σ1 86 6 ∧ (α2 91, α2 92, α2 87) = (α1 91, α1 92, α1 87)) ∨ ((0 ≤ x1 ∧ x1 ≤ 5 ∧ 1 ≤ x3 ∧ x3 ≤ 20) ∧ α1 121 (x1 : Int).toNat = 60 ∧ (v2, σ2 86 6, (α2 91, α2 92, α2 87)) = qps qstm (α1 123) (60 * x1) (α1 122 (x1 : Int).toNat) x2 (x3 : Int).toNat 0 (σ1 86 6) (α1 91, α1 92, α1 87))))  : v1 = v2 ∧ σ1 86 6 ≤ σ2 86 6 ∧ qR σ2 α2 ∧ qRF σ2 α2 ∧ qRH σ2 α2 ∧ qRL σ2 α2 := by
  have b6 : 0 ≤ σ 86 6 ∧ σ 86 6 ≤ 32 := hI.1 86 6
  have b16 : 0 ≤ σ 86 16 ∧ σ 86 16 ≤ 40 := hI.1 86 16
  have b24 : 0 ≤ σ 86 24 ∧ σ 86 24 ≤ 60 := hI.1 86 24
  have e6 := hR.1
  have e16 := hR.2.1
  have e24 := hR.2.2.1
  have c6 : σ1 86 6 = σ 86 6 := hG1.1 86 6 (by decide)
  have c91 := hG1.2 91 (by decide)
  have c92 := hG1.2 92 (by decide)
  have c87 := hG1.2 87 (by decide)
  have d6 : σ2 17 6 = σ1 17 6 := hG2.1 17 6 (by decide)
  have d18 := hG2.2 18 (by decide)
  have d19 := hG2.2 19 (by decide)
  have d20 := hG2.2 20 (by decide)
  have d22 := hG2.2 22 (by decide)
  have hG : qFr [(17, 6), (86, 6), (86, 15)] [18, 19, 20, 22, 87, 91, 92] σ α σ2 α2 := qFr_tr hG1 hG2
  have h0 := qPP_0 hI hR hH hL
  rw [c91, c92, c87] at hy0
  have cp : 0 ≤ x1 ∧ x1 ≤ 5 → qpg (α 45 (x1 : Int).toNat) (α 47 (x1 : Int).toNat) (α 121 (x1 : Int).toNat) := fun h => hR.2.2.2.2.2.2.2.1 _ (by omega)
  unfold qpg at cp
  have c121 := hG1.2 121 (by decide)
  have c122 := hG1.2 122 (by decide)
  have c123 := hG1.2 123 (by decide)
  rw [c121, c122, c123] at hy0
  rcases hx0 with ⟨x1', x2', x3', x4'⟩ | ⟨x1', x2', x3', x4', x5'⟩ | ⟨x1', x2', ⟨x3a, x3b⟩, x4', x5'⟩ | ⟨x1', x2', x3'⟩
  · rcases hy0 with ⟨y1, y2, y3, y4⟩ | ⟨y1, y2, y3, y4, y5⟩ | ⟨y1, y2, ⟨y3a, y3b⟩, y4, y5⟩ | ⟨y1, y2, y3⟩
    · exact ⟨by omega, by omega, ro_pp hR hF h0 hG (by omega) (by omega) (by rw [d18, d19, d20, d22]; exact x4') (y4)⟩
    · exact False.elim (by omega)
    · exact False.elim (by omega)
    · exact False.elim (by omega)
  · rcases hy0 with ⟨y1, y2, y3, y4⟩ | ⟨y1, y2, y3, y4, y5⟩ | ⟨y1, y2, ⟨y3a, y3b⟩, y4, y5⟩ | ⟨y1, y2, y3⟩
    · exact False.elim (by omega)
    · exact ⟨by omega, by omega, ro_pp hR hF h0 hG (by omega) (by omega) (by rw [d18, d19, d20, d22]; exact x5') (y5)⟩
    · exact False.elim (by omega)
    · exact False.elim (by omega)
  · rcases hy0 with ⟨y1, y2, y3, y4⟩ | ⟨y1, y2, y3, y4, y5⟩ | ⟨y1, y2, ⟨y3a, y3b⟩, y4, y5⟩ | ⟨y1, y2, y3⟩
    · exact False.elim (by omega)
    · exact False.elim (by omega)
    · exact ⟨by omega, by omega, ro_pp hR hF h0 hG (by omega) (by omega) (by rw [d18, d19, d20, d22]; exact x5') (y5)⟩
    · exact False.elim (by omega)
  · rcases hy0 with ⟨y1, y2, y3, y4⟩ | ⟨y1, y2, y3, y4, y5⟩ | ⟨y1, y2, ⟨y3a, y3b⟩, y4, y5⟩ | ⟨y1, y2, y3⟩
    · exact False.elim (by omega)
    · exact False.elim (by omega)
    · exact False.elim (by omega)
    · have r7 : α 46 (x1 : Int).toNat = α 122 (x1 : Int).toNat := by rw [hR.2.2.2.2.2.2.1]
      have hl : 0 ≤ α 46 (x1 : Int).toNat ∧ α 46 (x1 : Int).toNat ≤ 60 := hI.2.1 46 _ (show (x1 : Int).toNat < 6 by omega)
      have eq := qps_eq (st := qstm) (f := α 123) (g := α 48) (b := 60 * x1) (len := α 122 (x1 : Int).toNat) (i := x2) (fun j h1 h2 => by
        have h9 := hR.2.2.2.2.2.2.2.2 (x1 : Int).toNat j.toNat (by omega) (by omega)
        unfold qpa
        rw [show (60 * x1 + j : Int).toNat = 60 * (x1 : Int).toNat + j.toNat by omega, h9]) (x3 : Int).toNat 0 (σ 86 6) (α 91, α 92, α 87)
      rw [c6, eq, ← r7, ← e6, show 60 * x1 = x1 * 60 by omega] at y3
      have hrel := qps_rel (R := qPP σ α) (f := α 48) (b := x1 * 60) (len := α 46 (x1 : Int).toNat) (i := x2) (fun s t t' l w k k0 k1 k2 k3 => qPP_s (by omega) (by omega) s t t' l w k k0 k1 k2 k3) (x3 : Int).toNat 0 (σ 17 6) _ _ (by omega) h0
      obtain ⟨ha, hb, hc⟩ := hrel
      have xa := congrArg (fun t => t.1) x3'
      have xb := congrArg (fun t => t.2.1) x3'
      have xc := congrArg (fun t => t.2.2) x3'
      have ya := congrArg (fun t => t.1) y3
      have yb := congrArg (fun t => t.2.1) y3
      have yc := congrArg (fun t => t.2.2) y3
      refine ⟨(xa.trans ha).trans ya.symm, Int.le_trans (show σ1 86 6 ≤ σ 17 6 by omega) (Int.le_trans (qps_ge _ _ _ _) (Int.le_of_eq yb.symm)), ro_pp hR hF hc hG (d6.trans xb) ((yb.trans hb.symm)) (by rw [d18, d19, d20, d22]; exact xc) yc⟩

set_option maxHeartbeats 4000000 in
theorem ro_sword {σ α σ1 α1 σ2 α2 : Nat → Nat → Int} {κ : Nat → Option Nat} {ρ : Nat} {x1 x2 v1 v2 : Int}  (hI : qI σ α κ ρ) (hR : qR σ α) (hH : qRH σ α) (hG1 : qFr [(76, 7), (76, 8)] [20, 33, 35, 41, 77, 78, 79, 80] σ α σ1 α1) (hG2 : qFr [(86, 4), (86, 5)] [87, 88, 89, 90] σ1 α1 σ2 α2) (hx0 : ((v1 = -1 ∧ ¬ (0 ≤ x1 ∧ x1 < σ 17 6 ∧ 0 ≤ x2 ∧ x2 ≤ 1) ∧ qHq σ1 α1 ((α 87, α 88, α 89, α 90, σ 86 5, σ 86 4) : qHS)) ∨ ((0 ≤ x1 ∧ x1 < σ 17 6 ∧ 0 ≤ x2 ∧ x2 ≤ 1) ∧ v1 = qtd (α 33) (α 41) (α 20) (α 35) 2 x1 ∧ qHq σ1 α1 (qbec ((α 87, α 88, α 89, α 90, σ 86 5, σ 86 4) : qHS) (qat 2 x1) (qwd ((α 87, α 88, α 89, α 90, σ 86 5, σ 86 4) : qHS).1 2 x1 x2))))) (hy0 : ((v2 = -1 ∧ ¬ (0 ≤ x1 ∧ x1 < σ1 86 6 ∧ 0 ≤ x2 ∧ x2 ≤ 1) ∧ (α2 87 = α1 87 ∧ α2 88 = α1 88 ∧ α2 89 = α1 89 ∧ α2 90 = α1 90 ∧ σ2 86 5 = σ1 86 5 ∧ σ2 86 4 = σ1 86 4)) ∨ ((0 ≤ x1 ∧ x1 < σ1 86 6 ∧ 0 ≤ x2 ∧ x2 ≤ 1) ∧ v2 = α1 87 (0 + x1 : Int).toNat ∧ (α2 87 = (qbec (α1 87, α1 88, α1 89, α1 90, σ1 86 5, σ1 86 4) (0 + x1) x2).1 ∧ α2 88 = (qbec (α1 87, α1 88, α1 89, α1 90, σ1 86 5, σ1 86 4) (0 + x1) x2).2.1 ∧ α2 89 = (qbec (α1 87, α1 88, α1 89, α1 90, σ1 86 5, σ1 86 4) (0 + x1) x2).2.2.1 ∧ α2 90 = (qbec (α1 87, α1 88, α1 89, α1 90, σ1 86 5, σ1 86 4) (0 + x1) x2).2.2.2.1 ∧ σ2 86 5 = (qbec (α1 87, α1 88, α1 89, α1 90, σ1 86 5, σ1 86 4) (0 + x1) x2).2.2.2.2.1 ∧ σ2 86 4 = (qbec (α1 87, α1 88, α1 89, α1 90, σ1 86 5, σ1 86 4) (0 + x1) x2).2.2.2.2.2))))  : v1 = v2 ∧ qRH σ2 α2 := by
  have b6 : 0 ≤ σ 86 6 ∧ σ 86 6 ≤ 32 := hI.1 86 6
  have b16 : 0 ≤ σ 86 16 ∧ σ 86 16 ≤ 40 := hI.1 86 16
  have b24 : 0 ≤ σ 86 24 ∧ σ 86 24 ≤ 60 := hI.1 86 24
  have e6 := hR.1
  have e16 := hR.2.1
  have e24 := hR.2.2.1
  have c6 : σ1 86 6 = σ 86 6 := hG1.1 86 6 (by decide)
  have c16 : σ1 86 16 = σ 86 16 := hG1.1 86 16 (by decide)
  have c24 : σ1 86 24 = σ 86 24 := hG1.1 86 24 (by decide)
  have c87 := hG1.2 87 (by decide)
  rcases hx0 with ⟨a1, a2, a3⟩ | ⟨a1, a2, a3⟩
  · rcases hy0 with ⟨b1, b2, b3⟩ | ⟨b1, b2, b3⟩
    · exact ⟨by omega, ro_cs hH hG1 (by decide) (by decide) hG2 (by decide) (by decide) a3 b3⟩
    · exact False.elim (by omega)
  · rcases hy0 with ⟨b1, b2, b3⟩ | ⟨b1, b2, b3⟩
    · exact False.elim (by omega)
    · refine ⟨?_, ro_ch hH hG1 hG2 a3 (show (0 + x1 : Int) = x1 by omega) (rfl) b3⟩
      rw [a2, b2, c87]
      have h1 : qtd (α 33) (α 41) (α 20) (α 35) 2 x1 = α 20 (x1 : Int).toNat := rfl
      rw [h1, hH.1.1.1.1 _ (show (x1 : Int).toNat < 32 by omega)]
      show α 87 (x1 : Int).toNat = α 87 (0 + x1 : Int).toNat
      rw [show (0 + x1 : Int) = x1 by omega]

set_option maxHeartbeats 4000000 in
theorem ro_pay {σ α σ1 α1 σ2 α2 : Nat → Nat → Int} {κ : Nat → Option Nat} {ρ : Nat} {x1 x2 v1 v2 : Int}  (hI : qI σ α κ ρ) (hR : qR σ α) (hH : qRH σ α) (hG1 : qFr [(76, 7), (76, 8)] [20, 33, 35, 41, 77, 78, 79, 80] σ α σ1 α1) (hG2 : qFr [(86, 4), (86, 5)] [87, 88, 89, 90] σ1 α1 σ2 α2) (hx0 : ((v1 = -1 ∧ ¬ (0 ≤ x1 ∧ x1 < σ 27 7 ∧ 0 ≤ x2 ∧ x2 ≤ 2400) ∧ qHq σ1 α1 ((α 87, α 88, α 89, α 90, σ 86 5, σ 86 4) : qHS)) ∨ ((0 ≤ x1 ∧ x1 < σ 27 7 ∧ 0 ≤ x2 ∧ x2 ≤ 2400) ∧ v1 = qtd (α 33) (α 41) (α 20) (α 35) 0 x1 ∧ qHq σ1 α1 (qbec ((α 87, α 88, α 89, α 90, σ 86 5, σ 86 4) : qHS) (qat 0 x1) (qwd ((α 87, α 88, α 89, α 90, σ 86 5, σ 86 4) : qHS).1 0 x1 x2))))) (hy0 : ((v2 = -1 ∧ ¬ (0 ≤ x1 ∧ x1 < σ1 86 16 ∧ 0 ≤ x2 ∧ x2 ≤ 2400) ∧ (α2 87 = α1 87 ∧ α2 88 = α1 88 ∧ α2 89 = α1 89 ∧ α2 90 = α1 90 ∧ σ2 86 5 = σ1 86 5 ∧ σ2 86 4 = σ1 86 4)) ∨ ((0 ≤ x1 ∧ x1 < σ1 86 16 ∧ 0 ≤ x2 ∧ x2 ≤ 2400) ∧ v2 = α1 87 (32 + x1 : Int).toNat ∧ (α2 87 = (qbec (α1 87, α1 88, α1 89, α1 90, σ1 86 5, σ1 86 4) (32 + x1) x2).1 ∧ α2 88 = (qbec (α1 87, α1 88, α1 89, α1 90, σ1 86 5, σ1 86 4) (32 + x1) x2).2.1 ∧ α2 89 = (qbec (α1 87, α1 88, α1 89, α1 90, σ1 86 5, σ1 86 4) (32 + x1) x2).2.2.1 ∧ α2 90 = (qbec (α1 87, α1 88, α1 89, α1 90, σ1 86 5, σ1 86 4) (32 + x1) x2).2.2.2.1 ∧ σ2 86 5 = (qbec (α1 87, α1 88, α1 89, α1 90, σ1 86 5, σ1 86 4) (32 + x1) x2).2.2.2.2.1 ∧ σ2 86 4 = (qbec (α1 87, α1 88, α1 89, α1 90, σ1 86 5, σ1 86 4) (32 + x1) x2).2.2.2.2.2))))  : v1 = v2 ∧ qRH σ2 α2 := by
  have b6 : 0 ≤ σ 86 6 ∧ σ 86 6 ≤ 32 := hI.1 86 6
  have b16 : 0 ≤ σ 86 16 ∧ σ 86 16 ≤ 40 := hI.1 86 16
  have b24 : 0 ≤ σ 86 24 ∧ σ 86 24 ≤ 60 := hI.1 86 24
  have e6 := hR.1
  have e16 := hR.2.1
  have e24 := hR.2.2.1
  have c6 : σ1 86 6 = σ 86 6 := hG1.1 86 6 (by decide)
  have c16 : σ1 86 16 = σ 86 16 := hG1.1 86 16 (by decide)
  have c24 : σ1 86 24 = σ 86 24 := hG1.1 86 24 (by decide)
  have c87 := hG1.2 87 (by decide)
  rcases hx0 with ⟨a1, a2, a3⟩ | ⟨a1, a2, a3⟩
  · rcases hy0 with ⟨b1, b2, b3⟩ | ⟨b1, b2, b3⟩
    · exact ⟨by omega, ro_cs hH hG1 (by decide) (by decide) hG2 (by decide) (by decide) a3 b3⟩
    · exact False.elim (by omega)
  · rcases hy0 with ⟨b1, b2, b3⟩ | ⟨b1, b2, b3⟩
    · exact False.elim (by omega)
    · refine ⟨?_, ro_ch hH hG1 hG2 a3 (rfl) (rfl) b3⟩
      rw [a2, b2, c87]
      have h1 : qtd (α 33) (α 41) (α 20) (α 35) 0 x1 = α 33 (x1 : Int).toNat := rfl
      rw [h1, hH.1.1.1.2.1 _ (show (x1 : Int).toNat < 40 by omega)]
      show α 87 (32 + (x1 : Int).toNat) = α 87 (32 + x1 : Int).toNat
      rw [show (32 + x1 : Int).toNat = 32 + (x1 : Int).toNat by omega]

set_option maxHeartbeats 4000000 in
theorem ro_cover {σ α σ1 α1 σ2 α2 : Nat → Nat → Int} {κ : Nat → Option Nat} {ρ : Nat} {x1 x2 x3 v1 v2 : Int}  (hI : qI σ α κ ρ) (hR : qR σ α) (hH : qRH σ α) (hG1 : qFr [(76, 7), (76, 8)] [20, 33, 35, 41, 77, 78, 79, 80] σ α σ1 α1) (hG2 : qFr [(86, 4), (86, 5)] [87, 88, 89, 90] σ1 α1 σ2 α2) (hx0 : ((v1 = -1 ∧ ¬ (0 ≤ x1 ∧ x1 < σ 34 7 ∧ 0 ≤ x2 ∧ x2 < σ 17 6 ∧ 0 ≤ x3 ∧ x3 ≤ 1) ∧ qHq σ1 α1 ((α 87, α 88, α 89, α 90, σ 86 5, σ 86 4) : qHS)) ∨ ((0 ≤ x1 ∧ x1 < σ 34 7 ∧ 0 ≤ x2 ∧ x2 < σ 17 6 ∧ 0 ≤ x3 ∧ x3 ≤ 1) ∧ v1 = qtd (α 33) (α 41) (α 20) (α 35) 1 (x1 * 32 + x2) ∧ qHq σ1 α1 (qbec ((α 87, α 88, α 89, α 90, σ 86 5, σ 86 4) : qHS) (qat 1 (x1 * 32 + x2)) (qwd ((α 87, α 88, α 89, α 90, σ 86 5, σ 86 4) : qHS).1 1 (x1 * 32 + x2) x3))))) (hy0 : ((v2 = -1 ∧ ¬ (0 ≤ x1 ∧ x1 < σ1 86 24 ∧ 0 ≤ x2 ∧ x2 < σ1 86 6 ∧ 0 ≤ x3 ∧ x3 ≤ 1) ∧ (α2 87 = α1 87 ∧ α2 88 = α1 88 ∧ α2 89 = α1 89 ∧ α2 90 = α1 90 ∧ σ2 86 5 = σ1 86 5 ∧ σ2 86 4 = σ1 86 4)) ∨ ((0 ≤ x1 ∧ x1 < σ1 86 24 ∧ 0 ≤ x2 ∧ x2 < σ1 86 6 ∧ 0 ≤ x3 ∧ x3 ≤ 1) ∧ v2 = qcw (α1 87) (x1 : Int).toNat x2 ∧ (α2 87 = (qbec (α1 87, α1 88, α1 89, α1 90, σ1 86 5, σ1 86 4) (72 + 2 * x1 + x2 / 16) (qcj (α1 87 (72 + 2 * x1 + x2 / 16).toNat) (x2 % 16) x3)).1 ∧ α2 88 = (qbec (α1 87, α1 88, α1 89, α1 90, σ1 86 5, σ1 86 4) (72 + 2 * x1 + x2 / 16) (qcj (α1 87 (72 + 2 * x1 + x2 / 16).toNat) (x2 % 16) x3)).2.1 ∧ α2 89 = (qbec (α1 87, α1 88, α1 89, α1 90, σ1 86 5, σ1 86 4) (72 + 2 * x1 + x2 / 16) (qcj (α1 87 (72 + 2 * x1 + x2 / 16).toNat) (x2 % 16) x3)).2.2.1 ∧ α2 90 = (qbec (α1 87, α1 88, α1 89, α1 90, σ1 86 5, σ1 86 4) (72 + 2 * x1 + x2 / 16) (qcj (α1 87 (72 + 2 * x1 + x2 / 16).toNat) (x2 % 16) x3)).2.2.2.1 ∧ σ2 86 5 = (qbec (α1 87, α1 88, α1 89, α1 90, σ1 86 5, σ1 86 4) (72 + 2 * x1 + x2 / 16) (qcj (α1 87 (72 + 2 * x1 + x2 / 16).toNat) (x2 % 16) x3)).2.2.2.2.1 ∧ σ2 86 4 = (qbec (α1 87, α1 88, α1 89, α1 90, σ1 86 5, σ1 86 4) (72 + 2 * x1 + x2 / 16) (qcj (α1 87 (72 + 2 * x1 + x2 / 16).toNat) (x2 % 16) x3)).2.2.2.2.2))))  : v1 = v2 ∧ qRH σ2 α2 := by
  have b6 : 0 ≤ σ 86 6 ∧ σ 86 6 ≤ 32 := hI.1 86 6
  have b16 : 0 ≤ σ 86 16 ∧ σ 86 16 ≤ 40 := hI.1 86 16
  have b24 : 0 ≤ σ 86 24 ∧ σ 86 24 ≤ 60 := hI.1 86 24
  have e6 := hR.1
  have e16 := hR.2.1
  have e24 := hR.2.2.1
  have c6 : σ1 86 6 = σ 86 6 := hG1.1 86 6 (by decide)
  have c16 : σ1 86 16 = σ 86 16 := hG1.1 86 16 (by decide)
  have c24 : σ1 86 24 = σ 86 24 := hG1.1 86 24 (by decide)
  have c87 := hG1.2 87 (by decide)
  rcases hx0 with ⟨a1, a2, a3⟩ | ⟨a1, a2, a3⟩
  · rcases hy0 with ⟨b1, b2, b3⟩ | ⟨b1, b2, b3⟩
    · exact ⟨by omega, ro_cs hH hG1 (by decide) (by decide) hG2 (by decide) (by decide) a3 b3⟩
    · exact False.elim (by omega)
  · rcases hy0 with ⟨b1, b2, b3⟩ | ⟨b1, b2, b3⟩
    · exact False.elim (by omega)
    · refine ⟨?_, ro_ch hH hG1 hG2 a3 (show 72 + 2 * x1 + x2 / 16 = 72 + 2 * ((x1 * 32 + x2) / 32) + (x1 * 32 + x2) % 32 / 16 by omega) (by
        rw [c87]
        show qcj (α 87 (72 + 2 * x1 + x2 / 16).toNat) (x2 % 16) x3 = qcj (α 87 (72 + 2 * ((x1 * 32 + x2) / 32) + (x1 * 32 + x2) % 32 / 16).toNat) ((x1 * 32 + x2) % 16) x3
        rw [show 72 + 2 * ((x1 * 32 + x2) / 32) + (x1 * 32 + x2) % 32 / 16 = 72 + 2 * x1 + x2 / 16 by omega, show (x1 * 32 + x2) % 16 = x2 % 16 by omega]) b3⟩
      rw [a2, b2, c87]
      have h1 : qtd (α 33) (α 41) (α 20) (α 35) 1 (x1 * 32 + x2) = qbit (α 41 ((x1 * 32 + x2) / 32 : Int).toNat) ((x1 * 32 + x2) % 32) := rfl
      have h2 := hH.1.1.1.2.2.2.1 (x1 : Int).toNat (by omega) x2 ⟨by omega, by omega⟩
      rw [if_pos (by omega)] at h2
      rw [h1, show (x1 * 32 + x2) / 32 = x1 by omega, show (x1 * 32 + x2) % 32 = x2 by omega]
      exact h2

set_option maxHeartbeats 4000000 in
theorem ro_undo {σ α σ1 α1 σ2 α2 : Nat → Nat → Int} {κ : Nat → Option Nat} {ρ : Nat} { v1 v2 : Int}  (hI : qI σ α κ ρ) (hR : qR σ α) (hH : qRH σ α) (hG1 : qFr [(76, 7)] [20, 33, 35, 41] σ α σ1 α1) (hG2 : qFr [(86, 5)] [87] σ1 α1 σ2 α2) (hx0 : ((v1 = -5 ∧ ¬ 0 < σ 76 7 ∧ qHq σ1 α1 ((α 87, α 88, α 89, α 90, σ 86 5, σ 86 4) : qHS)) ∨ (v1 = σ 76 7 - 1 ∧ 0 < σ 76 7 ∧ qHq σ1 α1 (qund ((α 87, α 88, α 89, α 90, σ 86 5, σ 86 4) : qHS))))) (hy0 : ((v2 = -5 ∧ σ1 86 5 = 0 ∧ α2 87 = α1 87 ∧ σ2 86 5 = σ1 86 5) ∨ (v2 = σ1 86 5 - 1 ∧ 0 < σ1 86 5 ∧ α2 87 = qzu (α1 87) (α1 88 (σ1 86 5 - 1 : Int).toNat).toNat (α1 89 (σ1 86 5 - 1 : Int).toNat) ∧ σ2 86 5 = σ1 86 5 - 1)))  : v1 = v2 ∧ qRH σ2 α2 := by
  have b6 : 0 ≤ σ 86 6 ∧ σ 86 6 ≤ 32 := hI.1 86 6
  have b16 : 0 ≤ σ 86 16 ∧ σ 86 16 ≤ 40 := hI.1 86 16
  have b24 : 0 ≤ σ 86 24 ∧ σ 86 24 ≤ 60 := hI.1 86 24
  have e6 := hR.1
  have e16 := hR.2.1
  have e24 := hR.2.2.1
  have g7 := hH.1.2.1
  have gd := hH.1.2.2.1
  have g7a : σ 76 7 = σ 86 5 := g7.1
  have g7b : σ 76 8 = σ 86 4 := g7.2
  have gda : 0 ≤ σ 86 5 ∧ σ 86 5 ≤ σ 86 4 ∧ σ 86 4 ≤ 40 := gd
  have c5 : σ1 86 5 = σ 86 5 := hG1.1 86 5 (by decide)
  have c4 : σ1 86 4 = σ 86 4 := hG1.1 86 4 (by decide)
  have d4 : σ2 86 4 = σ1 86 4 := hG2.1 86 4 (by decide)
  have c87 := hG1.2 87 (by decide)
  have c88 := hG1.2 88 (by decide)
  have c89 := hG1.2 89 (by decide)
  have c90 := hG1.2 90 (by decide)
  have d88 := hG2.2 88 (by decide)
  have d89 := hG2.2 89 (by decide)
  have d90 := hG2.2 90 (by decide)
  rcases hx0 with ⟨a1, a2, a3⟩ | ⟨a1, a2, a3⟩
  · rcases hy0 with ⟨b1, b2, b3, b4⟩ | ⟨b1, b2, b3, b4⟩
    · exact ⟨by omega, ro_cs hH hG1 (by decide) (by decide) hG2 (by decide) (by decide) a3 ⟨b3, d88, d89, d90, b4, d4⟩⟩
    · exact False.elim (by omega)
  · rcases hy0 with ⟨b1, b2, b3, b4⟩ | ⟨b1, b2, b3, b4⟩
    · exact False.elim (by omega)
    · refine ⟨by omega, ?_⟩
      rw [c87, c88, c89, c5] at b3
      have e : ((α2 87, α2 88, α2 89, α2 90, σ2 86 5, σ2 86 4) : qHS) = qund (α 87, α 88, α 89, α 90, σ 86 5, σ 86 4) := by
        rw [b3, d88, d89, d90, d4, c88, c89, c90, c4, b4, c5]
        rfl
      unfold qRH
      rw [e]
      exact ⟨qHq_fr hG2 (by decide) (by decide) a3, (qCh_und (by show 0 < σ 86 5 ∧ σ 86 5 ≤ σ 86 4; omega) hH.2).2⟩

set_option maxHeartbeats 4000000 in
theorem ro_redo {σ α σ1 α1 σ2 α2 : Nat → Nat → Int} {κ : Nat → Option Nat} {ρ : Nat} { v1 v2 : Int}  (hI : qI σ α κ ρ) (hR : qR σ α) (hH : qRH σ α) (hG1 : qFr [(76, 7)] [20, 33, 35, 41] σ α σ1 α1) (hG2 : qFr [(86, 5)] [87] σ1 α1 σ2 α2) (hx0 : ((v1 = -5 ∧ ¬ σ 76 7 < σ 76 8 ∧ qHq σ1 α1 ((α 87, α 88, α 89, α 90, σ 86 5, σ 86 4) : qHS)) ∨ (v1 = σ 76 8 - σ 76 7 - 1 ∧ σ 76 7 < σ 76 8 ∧ qHq σ1 α1 (qred ((α 87, α 88, α 89, α 90, σ 86 5, σ 86 4) : qHS))))) (hy0 : ((v2 = -5 ∧ σ1 86 5 = σ1 86 4 ∧ α2 87 = α1 87 ∧ σ2 86 5 = σ1 86 5) ∨ (v2 = σ1 86 4 - σ1 86 5 - 1 ∧ ¬ σ1 86 5 = σ1 86 4 ∧ α2 87 = qzu (α1 87) (α1 88 (σ1 86 5 : Int).toNat).toNat (α1 90 (σ1 86 5 : Int).toNat) ∧ σ2 86 5 = σ1 86 5 + 1)))  : v1 = v2 ∧ qRH σ2 α2 := by
  have b6 : 0 ≤ σ 86 6 ∧ σ 86 6 ≤ 32 := hI.1 86 6
  have b16 : 0 ≤ σ 86 16 ∧ σ 86 16 ≤ 40 := hI.1 86 16
  have b24 : 0 ≤ σ 86 24 ∧ σ 86 24 ≤ 60 := hI.1 86 24
  have e6 := hR.1
  have e16 := hR.2.1
  have e24 := hR.2.2.1
  have g7 := hH.1.2.1
  have gd := hH.1.2.2.1
  have g7a : σ 76 7 = σ 86 5 := g7.1
  have g7b : σ 76 8 = σ 86 4 := g7.2
  have gda : 0 ≤ σ 86 5 ∧ σ 86 5 ≤ σ 86 4 ∧ σ 86 4 ≤ 40 := gd
  have c5 : σ1 86 5 = σ 86 5 := hG1.1 86 5 (by decide)
  have c4 : σ1 86 4 = σ 86 4 := hG1.1 86 4 (by decide)
  have d4 : σ2 86 4 = σ1 86 4 := hG2.1 86 4 (by decide)
  have c87 := hG1.2 87 (by decide)
  have c88 := hG1.2 88 (by decide)
  have c89 := hG1.2 89 (by decide)
  have c90 := hG1.2 90 (by decide)
  have d88 := hG2.2 88 (by decide)
  have d89 := hG2.2 89 (by decide)
  have d90 := hG2.2 90 (by decide)
  rcases hx0 with ⟨a1, a2, a3⟩ | ⟨a1, a2, a3⟩
  · rcases hy0 with ⟨b1, b2, b3, b4⟩ | ⟨b1, b2, b3, b4⟩
    · exact ⟨by omega, ro_cs hH hG1 (by decide) (by decide) hG2 (by decide) (by decide) a3 ⟨b3, d88, d89, d90, b4, d4⟩⟩
    · exact False.elim (by omega)
  · rcases hy0 with ⟨b1, b2, b3, b4⟩ | ⟨b1, b2, b3, b4⟩
    · exact False.elim (by omega)
    · refine ⟨by omega, ?_⟩
      rw [c87, c88, c90, c5] at b3
      have e : ((α2 87, α2 88, α2 89, α2 90, σ2 86 5, σ2 86 4) : qHS) = qred (α 87, α 88, α 89, α 90, σ 86 5, σ 86 4) := by
        rw [b3, d88, d89, d90, d4, c88, c89, c90, c4, b4, c5]
        rfl
      unfold qRH
      rw [e]
      exact ⟨qHq_fr hG2 (by decide) (by decide) a3, (qCh_red (by show 0 ≤ σ 86 5 ∧ σ 86 5 < σ 86 4; omega) hH.2).2⟩

set_option maxHeartbeats 4000000 in
theorem ro_feud {σ α σ1 α1 σ2 α2 : Nat → Nat → Int} {κ : Nat → Option Nat} {ρ : Nat} {x1 x2 x3 v1 v2 : Int}  (hI : qI σ α κ ρ) (hR : qR σ α) (hF : qRF σ α) (hH : qRH σ α) (hG1 : qFr [(27, 7)] [28, 29, 30, 31, 32, 33] σ α σ1 α1) (hG2 : qFr [(86, 16)] [87, 97, 98, 99, 100, 101] σ1 α1 σ2 α2) (hx0 : ((v1 = -1 ∧ ¬ (0 ≤ x1 ∧ x1 / 100 < σ 17 6 ∧ x1 % 100 < σ 17 6 ∧ ¬ x1 / 100 = x1 % 100 ∧ 0 ≤ x2 ∧ x2 ≤ 2399 ∧ 0 ≤ x3 ∧ x3 ≤ 3999) ∧ σ1 27 7 = σ 27 7) ∧ α1 28 = α 28 ∧ α1 29 = α 29 ∧ α1 30 = α 30 ∧ α1 31 = α 31 ∧ α1 32 = α 32 ∧ α1 33 = α 33) ∨ ((v1 = -3 ∧ (0 ≤ x1 ∧ x1 / 100 < σ 17 6 ∧ x1 % 100 < σ 17 6 ∧ ¬ x1 / 100 = x1 % 100 ∧ 0 ≤ x2 ∧ x2 ≤ 2399 ∧ 0 ≤ x3 ∧ x3 ≤ 3999) ∧ 40 ≤ σ 27 7 ∧ σ1 27 7 = σ 27 7) ∧ α1 28 = α 28 ∧ α1 29 = α 29 ∧ α1 30 = α 30 ∧ α1 31 = α 31 ∧ α1 32 = α 32 ∧ α1 33 = α 33) ∨ ((v1 = σ 27 7 ∧ (0 ≤ x1 ∧ x1 / 100 < σ 17 6 ∧ x1 % 100 < σ 17 6 ∧ ¬ x1 / 100 = x1 % 100 ∧ 0 ≤ x2 ∧ x2 ≤ 2399 ∧ 0 ≤ x3 ∧ x3 ≤ 3999) ∧ σ 27 7 < 40 ∧ σ1 27 7 = σ 27 7 + 1) ∧ α1 28 = qzu (α 28) (σ 27 7 : Int).toNat (x1 / 100) ∧ α1 29 = qzu (α 29) (σ 27 7 : Int).toNat (x1 % 100) ∧ α1 30 = qzu (α 30) (σ 27 7 : Int).toNat (x2) ∧ α1 31 = qzu (α 31) (σ 27 7 : Int).toNat (x3 / 1000) ∧ α1 32 = qzu (α 32) (σ 27 7 : Int).toNat (x3 % 1000) ∧ α1 33 = qzu (α 33) (σ 27 7 : Int).toNat (2400))) (hy0 : ((v2 = -1 ∧ ¬ (0 ≤ x1 ∧ x1 / 100 < σ1 86 6 ∧ x1 % 100 < σ1 86 6 ∧ ¬ x1 / 100 = x1 % 100 ∧ 0 ≤ x2 ∧ x2 ≤ 2399 ∧ 0 ≤ x3 ∧ x3 ≤ 3999) ∧ σ2 86 16 = σ1 86 16) ∧ α2 97 = α1 97 ∧ α2 98 = α1 98 ∧ α2 99 = α1 99 ∧ α2 100 = α1 100 ∧ α2 101 = α1 101 ∧ α2 87 = α1 87) ∨ ((v2 = -3 ∧ (0 ≤ x1 ∧ x1 / 100 < σ1 86 6 ∧ x1 % 100 < σ1 86 6 ∧ ¬ x1 / 100 = x1 % 100 ∧ 0 ≤ x2 ∧ x2 ≤ 2399 ∧ 0 ≤ x3 ∧ x3 ≤ 3999) ∧ 40 ≤ σ1 86 16 ∧ σ2 86 16 = σ1 86 16) ∧ α2 97 = α1 97 ∧ α2 98 = α1 98 ∧ α2 99 = α1 99 ∧ α2 100 = α1 100 ∧ α2 101 = α1 101 ∧ α2 87 = α1 87) ∨ ((v2 = σ1 86 16 ∧ (0 ≤ x1 ∧ x1 / 100 < σ1 86 6 ∧ x1 % 100 < σ1 86 6 ∧ ¬ x1 / 100 = x1 % 100 ∧ 0 ≤ x2 ∧ x2 ≤ 2399 ∧ 0 ≤ x3 ∧ x3 ≤ 3999) ∧ σ1 86 16 < 40 ∧ σ2 86 16 = σ1 86 16 + 1) ∧ α2 97 = qzu (α1 97) (σ1 86 16 : Int).toNat (x1 / 100) ∧ α2 98 = qzu (α1 98) (σ1 86 16 : Int).toNat (x1 % 100) ∧ α2 99 = qzu (α1 99) (σ1 86 16 : Int).toNat (x2) ∧ α2 100 = qzu (α1 100) (σ1 86 16 : Int).toNat (x3 / 1000) ∧ α2 101 = qzu (α1 101) (σ1 86 16 : Int).toNat (x3 % 1000) ∧ α2 87 = qzu (α1 87) (32 + σ1 86 16 : Int).toNat (2400)))  : v1 = v2 ∧ qR σ2 α2 ∧ qRF σ2 α2 ∧ qRH σ2 α2 := by
  have b6 : 0 ≤ σ 86 6 ∧ σ 86 6 ≤ 32 := hI.1 86 6
  have b16 : 0 ≤ σ 86 16 ∧ σ 86 16 ≤ 40 := hI.1 86 16
  have b24 : 0 ≤ σ 86 24 ∧ σ 86 24 ≤ 60 := hI.1 86 24
  have e6 := hR.1
  have e16 := hR.2.1
  have e24 := hR.2.2.1
  have c6 : σ1 86 6 = σ 86 6 := hG1.1 86 6 (by decide)
  have c16 : σ1 86 16 = σ 86 16 := hG1.1 86 16 (by decide)
  have c17 : σ1 17 6 = σ 17 6 := hG1.1 17 6 (by decide)
  have d17 : σ2 17 6 = σ1 17 6 := hG2.1 17 6 (by decide)
  have d27 : σ2 27 7 = σ1 27 7 := hG2.1 27 7 (by decide)
  have hG : qFr [(27, 7), (86, 16)] [28, 29, 30, 31, 32, 33, 87, 97, 98, 99, 100, 101] σ α σ2 α2 := qFr_tr hG1 hG2
  rcases hx0 with ⟨⟨a1, a2, a3⟩, x28, x29, x30, x31, x32, x33⟩ | ⟨⟨a1, a2, a3, a4⟩, x28, x29, x30, x31, x32, x33⟩ | ⟨⟨a1, a2, a3, a4⟩, x28, x29, x30, x31, x32, x33⟩
  · skip
    rcases hy0 with ⟨⟨b1, b2, b3⟩, y97, y98, y99, y100, y101, y87⟩ | ⟨⟨b1, b2, b3, b4⟩, y97, y98, y99, y100, y101, y87⟩ | ⟨⟨b1, b2, b3, b4⟩, y97, y98, y99, y100, y101, y87⟩
    · have n1 := qFr_nil hG1 (fun x hx => by
        rcases List.mem_cons.mp hx with e | e
        · rw [e]
          exact (show σ1 27 7 = σ 27 7 by omega)
        · exact absurd e (List.not_mem_nil)) (fun a ha => by
        rcases List.mem_cons.mp ha with e | ha
        · rw [e]
          exact x28
        rcases List.mem_cons.mp ha with e | ha
        · rw [e]
          exact x29
        rcases List.mem_cons.mp ha with e | ha
        · rw [e]
          exact x30
        rcases List.mem_cons.mp ha with e | ha
        · rw [e]
          exact x31
        rcases List.mem_cons.mp ha with e | ha
        · rw [e]
          exact x32
        rcases List.mem_cons.mp ha with e | ha
        · rw [e]
          exact x33
        exact absurd ha (List.not_mem_nil))
      have n2 := qFr_nil hG2 (fun x hx => by
        rcases List.mem_cons.mp hx with e | e
        · rw [e]
          exact (show σ2 86 16 = σ1 86 16 by omega)
        · exact absurd e (List.not_mem_nil)) (fun a ha => by
        rcases List.mem_cons.mp ha with e | ha
        · rw [e]
          exact y87
        rcases List.mem_cons.mp ha with e | ha
        · rw [e]
          exact y97
        rcases List.mem_cons.mp ha with e | ha
        · rw [e]
          exact y98
        rcases List.mem_cons.mp ha with e | ha
        · rw [e]
          exact y99
        rcases List.mem_cons.mp ha with e | ha
        · rw [e]
          exact y100
        rcases List.mem_cons.mp ha with e | ha
        · rw [e]
          exact y101
        exact absurd ha (List.not_mem_nil))
      exact ⟨by omega, qR_fr n2 (by decide) (by decide) (qR_fr n1 (by decide) (by decide) hR), qRF_fr n2 (by decide) (by decide) (qRF_fr n1 (by decide) (by decide) hF), qRH_fr n2 (by decide) (by decide) (qRH_fr n1 (by decide) (by decide) hH)⟩
    · exact False.elim (by omega)
    · exact False.elim (by omega)
  · skip
    rcases hy0 with ⟨⟨b1, b2, b3⟩, y97, y98, y99, y100, y101, y87⟩ | ⟨⟨b1, b2, b3, b4⟩, y97, y98, y99, y100, y101, y87⟩ | ⟨⟨b1, b2, b3, b4⟩, y97, y98, y99, y100, y101, y87⟩
    · exact False.elim (by omega)
    · have n1 := qFr_nil hG1 (fun x hx => by
        rcases List.mem_cons.mp hx with e | e
        · rw [e]
          exact (show σ1 27 7 = σ 27 7 by omega)
        · exact absurd e (List.not_mem_nil)) (fun a ha => by
        rcases List.mem_cons.mp ha with e | ha
        · rw [e]
          exact x28
        rcases List.mem_cons.mp ha with e | ha
        · rw [e]
          exact x29
        rcases List.mem_cons.mp ha with e | ha
        · rw [e]
          exact x30
        rcases List.mem_cons.mp ha with e | ha
        · rw [e]
          exact x31
        rcases List.mem_cons.mp ha with e | ha
        · rw [e]
          exact x32
        rcases List.mem_cons.mp ha with e | ha
        · rw [e]
          exact x33
        exact absurd ha (List.not_mem_nil))
      have n2 := qFr_nil hG2 (fun x hx => by
        rcases List.mem_cons.mp hx with e | e
        · rw [e]
          exact (show σ2 86 16 = σ1 86 16 by omega)
        · exact absurd e (List.not_mem_nil)) (fun a ha => by
        rcases List.mem_cons.mp ha with e | ha
        · rw [e]
          exact y87
        rcases List.mem_cons.mp ha with e | ha
        · rw [e]
          exact y97
        rcases List.mem_cons.mp ha with e | ha
        · rw [e]
          exact y98
        rcases List.mem_cons.mp ha with e | ha
        · rw [e]
          exact y99
        rcases List.mem_cons.mp ha with e | ha
        · rw [e]
          exact y100
        rcases List.mem_cons.mp ha with e | ha
        · rw [e]
          exact y101
        exact absurd ha (List.not_mem_nil))
      exact ⟨by omega, qR_fr n2 (by decide) (by decide) (qR_fr n1 (by decide) (by decide) hR), qRF_fr n2 (by decide) (by decide) (qRF_fr n1 (by decide) (by decide) hF), qRH_fr n2 (by decide) (by decide) (qRH_fr n1 (by decide) (by decide) hH)⟩
    · exact False.elim (by omega)
  · skip
    rcases hy0 with ⟨⟨b1, b2, b3⟩, y97, y98, y99, y100, y101, y87⟩ | ⟨⟨b1, b2, b3, b4⟩, y97, y98, y99, y100, y101, y87⟩ | ⟨⟨b1, b2, b3, b4⟩, y97, y98, y99, y100, y101, y87⟩
    · exact False.elim (by omega)
    · exact False.elim (by omega)
    · have n16 : (σ1 86 16 : Int).toNat = (σ 27 7 : Int).toNat := by omega
      refine ⟨by omega, ?_, ?_, ?_⟩
      · obtain ⟨r1, r2, r3, r4, r5, r6, r7, r8, r9⟩ := hR
        refine ⟨?_, by omega, ?_, ?_, ?_, ?_, ?_, ?_, ?_⟩
        · rw [hG.1 17 6 (by decide), hG.1 86 6 (by decide)]; exact r1
        · rw [hG.1 34 7 (by decide), hG.1 86 24 (by decide)]; exact r3
        · rw [hG.2 18 (by decide), hG.2 91 (by decide)]; exact r4
        · rw [hG.2 19 (by decide), hG.2 92 (by decide)]; exact r5
        · rw [hG.2 21 (by decide), hG.2 93 (by decide)]; exact r6
        · rw [hG.2 46 (by decide), hG.2 122 (by decide)]; exact r7
        · rw [hG.2 45 (by decide), hG.2 47 (by decide), hG.2 121 (by decide)]; exact r8
        · rw [hG.2 46 (by decide), hG.2 48 (by decide), hG.2 123 (by decide)]; exact r9
      · obtain ⟨f1, f2, f3, f4, f5, f6⟩ := hF
        refine ⟨?_, ?_, ?_, ?_, ?_, fun f hf => ?_⟩
        · rw [hG2.2 28 (by decide), x28, y97, hG1.2 97 (by decide), f1, n16]
        · rw [hG2.2 29 (by decide), x29, y98, hG1.2 98 (by decide), f2, n16]
        · rw [hG2.2 30 (by decide), x30, y99, hG1.2 99 (by decide), f3, n16]
        · rw [hG2.2 31 (by decide), x31, y100, hG1.2 100 (by decide), f4, n16]
        · rw [hG2.2 32 (by decide), x32, y101, hG1.2 101 (by decide), f5, n16]
        · rw [y97, y98, hG1.2 97 (by decide), hG1.2 98 (by decide), hG.1 86 6 (by decide)]
          show (if f = (σ1 86 16 : Int).toNat then x1 / 100 else α 97 f) < σ 86 6 ∧ (if f = (σ1 86 16 : Int).toNat then x1 % 100 else α 98 f) < σ 86 6
          by_cases c : f = (σ1 86 16 : Int).toNat
          · rw [if_pos c, if_pos c]
            omega
          · rw [if_neg c, if_neg c]
            exact f6 f (by omega)
      · have hz : ∀ (f : Nat → Int) (a b : Nat) (x : Int), qzu f a x b = if b = a then x else f b := fun _ _ _ _ => rfl
        unfold qRH
        rw [y87, hG1.2 87 (by decide), hG.2 88 (by decide), hG.2 89 (by decide), hG.2 90 (by decide), hG.1 86 5 (by decide), hG.1 86 4 (by decide)]
        obtain ⟨m1, m2, m3, m4, m5⟩ := hH.1.1.1
        have hU : qUn α2 = qUn α := by
          unfold qUn
          rw [hG.2 38 (by decide), hG.2 39 (by decide), hG.2 40 (by decide)]
        refine ⟨qHq_new hH.1 ⟨fun k hk => ?_, fun k hk => ?_, fun k hk => ?_, fun k hk q hq => ?_, fun k hk => ?_⟩ (fun k hk => ?_) (by omega) (by omega) (by rw [hG.1 34 7 (by decide)]; exact Int.le_refl _) (hG.1 76 7 (by decide)) (hG.1 76 8 (by decide)) (hG.2 77 (by decide)) (hG.2 78 (by decide)) (hG.2 79 (by decide)) (hG.2 80 (by decide)) (fun k _ b hb => by rw [hU]; exact hb), qCh_new hH.1 (by omega) (by omega) (by omega) (Or.inr (Or.inl ⟨by omega, by omega⟩)) hH.2⟩
        · rw [hG.2 20 (by decide), hz, if_neg (by omega)]
          exact m1 k hk
        · rw [hG2.2 33 (by decide), x33, hz, hz, m2 k hk]
          by_cases c : k = (σ 27 7 : Int).toNat
          · rw [if_pos c, if_pos (by omega)]
          · rw [if_neg c, if_neg (by omega)]
        · rw [hG.2 35 (by decide), hz, if_neg (by omega)]
          exact m3 k hk
        · rw [hG.2 41 (by decide), m4 k hk q hq]
          by_cases d : q < 32
          · rw [if_pos d, if_pos d, qcw_o (by omega)]
          · rw [if_neg d, if_neg d]
        · rw [hz]
          split
          · decide
          · exact m5 k hk
        · rw [hG.2 35 (by decide), hU]
          exact hH.1.1.2 k (by rw [← hG.1 34 7 (by decide)]; exact hk)

set_option maxHeartbeats 4000000 in
theorem ro_peace {σ α σ1 α1 σ2 α2 : Nat → Nat → Int} {κ : Nat → Option Nat} {ρ : Nat} {x1 x2 x3 x4 v1 v2 : Int}  (hI : qI σ α κ ρ) (hR : qR σ α) (hP : qRP σ α) (hH : qRH σ α) (hG1 : qFr [(34, 7)] [35, 36, 37, 38, 39, 40, 41] σ α σ1 α1) (hG2 : qFr [(86, 24)] [87, 102, 103, 104, 105] σ1 α1 σ2 α2) (hx0 : ((v1 = -1 ∧ ¬ (0 ≤ x1 ∧ x1 % 10 ≤ 5 ∧ x1 / 10 < σ 17 6 ∧ 0 ≤ x2 ∧ x2 ≤ 4294967295 ∧ 0 ≤ x3 ∧ x3 / 10000 ≤ x3 % 10000 ∧ x3 % 10000 ≤ 2399 ∧ 0 ≤ x4 ∧ x4 ≤ 240) ∧ σ1 34 7 = σ 34 7) ∧ α1 35 = α 35 ∧ α1 36 = α 36 ∧ α1 37 = α 37 ∧ α1 38 = α 38 ∧ α1 39 = α 39 ∧ α1 40 = α 40 ∧ α1 41 = α 41) ∨ ((v1 = -3 ∧ (0 ≤ x1 ∧ x1 % 10 ≤ 5 ∧ x1 / 10 < σ 17 6 ∧ 0 ≤ x2 ∧ x2 ≤ 4294967295 ∧ 0 ≤ x3 ∧ x3 / 10000 ≤ x3 % 10000 ∧ x3 % 10000 ≤ 2399 ∧ 0 ≤ x4 ∧ x4 ≤ 240) ∧ 60 ≤ σ 34 7 ∧ σ1 34 7 = σ 34 7) ∧ α1 35 = α 35 ∧ α1 36 = α 36 ∧ α1 37 = α 37 ∧ α1 38 = α 38 ∧ α1 39 = α 39 ∧ α1 40 = α 40 ∧ α1 41 = α 41) ∨ ((v1 = σ 34 7 ∧ (0 ≤ x1 ∧ x1 % 10 ≤ 5 ∧ x1 / 10 < σ 17 6 ∧ 0 ≤ x2 ∧ x2 ≤ 4294967295 ∧ 0 ≤ x3 ∧ x3 / 10000 ≤ x3 % 10000 ∧ x3 % 10000 ≤ 2399 ∧ 0 ≤ x4 ∧ x4 ≤ 240) ∧ σ 34 7 < 60 ∧ σ1 34 7 = σ 34 7 + 1) ∧ α1 35 = qzu (α 35) (σ 34 7 : Int).toNat (x1 % 10) ∧ α1 36 = qzu (α 36) (σ 34 7 : Int).toNat (x1 / 10) ∧ α1 37 = qzu (α 37) (σ 34 7 : Int).toNat (x3 / 10000) ∧ α1 38 = qzu (α 38) (σ 34 7 : Int).toNat (x3 % 10000) ∧ α1 39 = qzu (α 39) (σ 34 7 : Int).toNat (x4) ∧ α1 40 = qzu (α 40) (σ 34 7 : Int).toNat (x3 % 10000 + (if x1 % 10 = 2 then x4 else 0)) ∧ α1 41 = qzu (α 41) (σ 34 7 : Int).toNat (x2))) (hy0 : ((v2 = -1 ∧ ¬ (0 ≤ x1 ∧ x1 % 10 ≤ 5 ∧ x1 / 10 < σ1 86 6 ∧ 0 ≤ x2 ∧ x2 ≤ 4294967295 ∧ 0 ≤ x3 ∧ x3 / 10000 ≤ x3 % 10000 ∧ x3 % 10000 ≤ 2399 ∧ 0 ≤ x4 ∧ x4 ≤ 240) ∧ σ2 86 24 = σ1 86 24 ∧ α2 102 = α1 102 ∧ α2 103 = α1 103 ∧ α2 104 = α1 104 ∧ α2 105 = α1 105 ∧ α2 87 = α1 87) ∨ (v2 = -3 ∧ (0 ≤ x1 ∧ x1 % 10 ≤ 5 ∧ x1 / 10 < σ1 86 6 ∧ 0 ≤ x2 ∧ x2 ≤ 4294967295 ∧ 0 ≤ x3 ∧ x3 / 10000 ≤ x3 % 10000 ∧ x3 % 10000 ≤ 2399 ∧ 0 ≤ x4 ∧ x4 ≤ 240) ∧ 60 ≤ σ1 86 24 ∧ σ2 86 24 = σ1 86 24 ∧ α2 102 = α1 102 ∧ α2 103 = α1 103 ∧ α2 104 = α1 104 ∧ α2 105 = α1 105 ∧ α2 87 = α1 87) ∨ (v2 = σ1 86 24 ∧ (0 ≤ x1 ∧ x1 % 10 ≤ 5 ∧ x1 / 10 < σ1 86 6 ∧ 0 ≤ x2 ∧ x2 ≤ 4294967295 ∧ 0 ≤ x3 ∧ x3 / 10000 ≤ x3 % 10000 ∧ x3 % 10000 ≤ 2399 ∧ 0 ≤ x4 ∧ x4 ≤ 240) ∧ σ1 86 24 < 60 ∧ σ2 86 24 = σ1 86 24 + 1 ∧ α2 102 = qzu (α1 102) (σ1 86 24 : Int).toNat (x1 / 10) ∧ α2 103 = qzu (α1 103) (σ1 86 24 : Int).toNat (x3 / 10000) ∧ α2 104 = qzu (α1 104) (σ1 86 24 : Int).toNat (x3 % 10000) ∧ α2 105 = qzu (α1 105) (σ1 86 24 : Int).toNat x4 ∧ ∃ c1 c2 : Int, α2 87 = qzu (qzu (qzu (α1 87) (192 + σ1 86 24 : Int).toNat (x1 % 10)) (72 + 2 * σ1 86 24 : Int).toNat c1) (72 + 2 * σ1 86 24 + 1 : Int).toNat c2 ∧ ((-2147483648 ≤ c1 ∧ c1 ≤ 2147483647) ∧ (-2147483648 ≤ c2 ∧ c2 ≤ 2147483647)) ∧ ∀ j : Int, (0 ≤ j ∧ j < 16) → qbi c1 j = qbit x2 j ∧ qbi c2 j = qbit x2 (16 + j))))  : v1 = v2 ∧ qR σ2 α2 ∧ qRP σ2 α2 ∧ qRH σ2 α2 := by
  have b6 : 0 ≤ σ 86 6 ∧ σ 86 6 ≤ 32 := hI.1 86 6
  have b16 : 0 ≤ σ 86 16 ∧ σ 86 16 ≤ 40 := hI.1 86 16
  have b24 : 0 ≤ σ 86 24 ∧ σ 86 24 ≤ 60 := hI.1 86 24
  have e6 := hR.1
  have e16 := hR.2.1
  have e24 := hR.2.2.1
  have c6 : σ1 86 6 = σ 86 6 := hG1.1 86 6 (by decide)
  have c24 : σ1 86 24 = σ 86 24 := hG1.1 86 24 (by decide)
  have d34 : σ2 34 7 = σ1 34 7 := hG2.1 34 7 (by decide)
  have hG : qFr [(34, 7), (86, 24)] [35, 36, 37, 38, 39, 40, 41, 87, 102, 103, 104, 105] σ α σ2 α2 := qFr_tr hG1 hG2
  rcases hx0 with ⟨⟨a1, a2, a3⟩, x35, x36, x37, x38, x39, x40, x41⟩ | ⟨⟨a1, a2, a3, a4⟩, x35, x36, x37, x38, x39, x40, x41⟩ | ⟨⟨a1, a2, a3, a4⟩, x35, x36, x37, x38, x39, x40, x41⟩
  · skip
    rcases hy0 with ⟨b1, b2, b3, y102, y103, y104, y105, y87⟩ | ⟨b1, b2, b3, b4, y102, y103, y104, y105, y87⟩ | ⟨b1, b2, b3, b4, y102, y103, y104, y105, c1, c2, y87, yr, yc⟩
    · have n1 := qFr_nil hG1 (fun x hx => by
        rcases List.mem_cons.mp hx with e | e
        · rw [e]
          exact (show σ1 34 7 = σ 34 7 by omega)
        · exact absurd e (List.not_mem_nil)) (fun a ha => by
        rcases List.mem_cons.mp ha with e | ha
        · rw [e]
          exact x35
        rcases List.mem_cons.mp ha with e | ha
        · rw [e]
          exact x36
        rcases List.mem_cons.mp ha with e | ha
        · rw [e]
          exact x37
        rcases List.mem_cons.mp ha with e | ha
        · rw [e]
          exact x38
        rcases List.mem_cons.mp ha with e | ha
        · rw [e]
          exact x39
        rcases List.mem_cons.mp ha with e | ha
        · rw [e]
          exact x40
        rcases List.mem_cons.mp ha with e | ha
        · rw [e]
          exact x41
        exact absurd ha (List.not_mem_nil))
      have n2 := qFr_nil hG2 (fun x hx => by
        rcases List.mem_cons.mp hx with e | e
        · rw [e]
          exact (show σ2 86 24 = σ1 86 24 by omega)
        · exact absurd e (List.not_mem_nil)) (fun a ha => by
        rcases List.mem_cons.mp ha with e | ha
        · rw [e]
          exact y87
        rcases List.mem_cons.mp ha with e | ha
        · rw [e]
          exact y102
        rcases List.mem_cons.mp ha with e | ha
        · rw [e]
          exact y103
        rcases List.mem_cons.mp ha with e | ha
        · rw [e]
          exact y104
        rcases List.mem_cons.mp ha with e | ha
        · rw [e]
          exact y105
        exact absurd ha (List.not_mem_nil))
      exact ⟨by omega, qR_fr n2 (by decide) (by decide) (qR_fr n1 (by decide) (by decide) hR), qRP_fr n2 (by decide) (by decide) (qRP_fr n1 (by decide) (by decide) hP), qRH_fr n2 (by decide) (by decide) (qRH_fr n1 (by decide) (by decide) hH)⟩
    · exact False.elim (by omega)
    · exact False.elim (by omega)
  · skip
    rcases hy0 with ⟨b1, b2, b3, y102, y103, y104, y105, y87⟩ | ⟨b1, b2, b3, b4, y102, y103, y104, y105, y87⟩ | ⟨b1, b2, b3, b4, y102, y103, y104, y105, c1, c2, y87, yr, yc⟩
    · exact False.elim (by omega)
    · have n1 := qFr_nil hG1 (fun x hx => by
        rcases List.mem_cons.mp hx with e | e
        · rw [e]
          exact (show σ1 34 7 = σ 34 7 by omega)
        · exact absurd e (List.not_mem_nil)) (fun a ha => by
        rcases List.mem_cons.mp ha with e | ha
        · rw [e]
          exact x35
        rcases List.mem_cons.mp ha with e | ha
        · rw [e]
          exact x36
        rcases List.mem_cons.mp ha with e | ha
        · rw [e]
          exact x37
        rcases List.mem_cons.mp ha with e | ha
        · rw [e]
          exact x38
        rcases List.mem_cons.mp ha with e | ha
        · rw [e]
          exact x39
        rcases List.mem_cons.mp ha with e | ha
        · rw [e]
          exact x40
        rcases List.mem_cons.mp ha with e | ha
        · rw [e]
          exact x41
        exact absurd ha (List.not_mem_nil))
      have n2 := qFr_nil hG2 (fun x hx => by
        rcases List.mem_cons.mp hx with e | e
        · rw [e]
          exact (show σ2 86 24 = σ1 86 24 by omega)
        · exact absurd e (List.not_mem_nil)) (fun a ha => by
        rcases List.mem_cons.mp ha with e | ha
        · rw [e]
          exact y87
        rcases List.mem_cons.mp ha with e | ha
        · rw [e]
          exact y102
        rcases List.mem_cons.mp ha with e | ha
        · rw [e]
          exact y103
        rcases List.mem_cons.mp ha with e | ha
        · rw [e]
          exact y104
        rcases List.mem_cons.mp ha with e | ha
        · rw [e]
          exact y105
        exact absurd ha (List.not_mem_nil))
      exact ⟨by omega, qR_fr n2 (by decide) (by decide) (qR_fr n1 (by decide) (by decide) hR), qRP_fr n2 (by decide) (by decide) (qRP_fr n1 (by decide) (by decide) hP), qRH_fr n2 (by decide) (by decide) (qRH_fr n1 (by decide) (by decide) hH)⟩
    · exact False.elim (by omega)
  · skip
    rcases hy0 with ⟨b1, b2, b3, y102, y103, y104, y105, y87⟩ | ⟨b1, b2, b3, b4, y102, y103, y104, y105, y87⟩ | ⟨b1, b2, b3, b4, y102, y103, y104, y105, c1, c2, y87, yr, yc⟩
    · exact False.elim (by omega)
    · exact False.elim (by omega)
    · have n24 : (σ1 86 24 : Int).toNat = (σ 34 7 : Int).toNat := by omega
      have hz : ∀ (f : Nat → Int) (a b : Nat) (x : Int), qzu f a x b = if b = a then x else f b := fun _ _ _ _ => rfl
      refine ⟨by omega, ?_, ?_, ?_⟩
      · obtain ⟨r1, r2, r3, r4, r5, r6, r7, r8, r9⟩ := hR
        refine ⟨?_, ?_, by omega, ?_, ?_, ?_, ?_, ?_, ?_⟩
        · rw [hG.1 17 6 (by decide), hG.1 86 6 (by decide)]; exact r1
        · rw [hG.1 27 7 (by decide), hG.1 86 16 (by decide)]; exact r2
        · rw [hG.2 18 (by decide), hG.2 91 (by decide)]; exact r4
        · rw [hG.2 19 (by decide), hG.2 92 (by decide)]; exact r5
        · rw [hG.2 21 (by decide), hG.2 93 (by decide)]; exact r6
        · rw [hG.2 46 (by decide), hG.2 122 (by decide)]; exact r7
        · rw [hG.2 45 (by decide), hG.2 47 (by decide), hG.2 121 (by decide)]; exact r8
        · rw [hG.2 46 (by decide), hG.2 48 (by decide), hG.2 123 (by decide)]; exact r9
      · obtain ⟨p1, p2, p3, p4, p5⟩ := hP
        refine ⟨?_, ?_, ?_, ?_, fun k hk => ?_⟩
        · rw [hG2.2 36 (by decide), x36, y102, hG1.2 102 (by decide), p1, n24]
        · rw [hG2.2 37 (by decide), x37, y103, hG1.2 103 (by decide), p2, n24]
        · rw [hG2.2 38 (by decide), x38, y104, hG1.2 104 (by decide), p3, n24]
        · rw [hG2.2 39 (by decide), x39, y105, hG1.2 105 (by decide), p4, n24]
        · rw [y104, y105, hG1.2 104 (by decide), hG1.2 105 (by decide), hz, hz]
          by_cases c : k = (σ1 86 24 : Int).toNat
          · rw [if_pos c, if_pos c]
            omega
          · rw [if_neg c, if_neg c]
            exact p5 k (by omega)
      · unfold qRH
        rw [y87, hG1.2 87 (by decide), hG.2 88 (by decide), hG.2 89 (by decide), hG.2 90 (by decide), hG.1 86 5 (by decide), hG.1 86 4 (by decide)]
        obtain ⟨m1, m2, m3, m4, m5⟩ := hH.1.1.1
        have hn : ∀ j : Nat, (j : Int) < σ 34 7 → α2 38 j = α 38 j ∧ α2 39 j = α 39 j ∧ α2 40 j = α 40 j ∧ α2 35 j = α 35 j := fun j hj => by
          rw [hG2.2 38 (by decide), hG2.2 39 (by decide), hG2.2 40 (by decide), hG2.2 35 (by decide), x38, x39, x40, x35, hz, hz, hz, hz, if_neg (by omega), if_neg (by omega), if_neg (by omega), if_neg (by omega)]
          exact ⟨rfl, rfl, rfl, rfl⟩
        have hU : ∀ j : Nat, (j : Int) < σ 34 7 → ∀ b : Int, qUn α j b → qUn α2 j b := fun j hj b hb => by
          have h4 := hn j hj
          unfold qUn at hb ⊢
          rw [h4.1, h4.2.1, h4.2.2.1]
          exact hb
        have hr1 := fun j : Int => fun h1 : 0 ≤ j ∧ j < 16 => yc j h1
        have hc0 : qCh (qzu (qzu (qzu (α 87) (192 + σ1 86 24 : Int).toNat (x1 % 10)) (72 + 2 * σ1 86 24 : Int).toNat c1) (72 + 2 * σ1 86 24 + 1 : Int).toNat c2, α 88, α 89, α 90, σ 86 5, σ 86 4) :=
          qCh_new hH.1 (by omega) (by omega) (by omega) (Or.inr (Or.inr (Or.inl ⟨by omega, by omega⟩))) (qCh_new hH.1 (by omega) (by omega) (by omega) (Or.inr (Or.inr (Or.inl ⟨by omega, by omega⟩))) (qCh_new hH.1 (by omega) (by omega) (by omega) (Or.inr (Or.inr (Or.inr (by omega)))) hH.2))
        refine ⟨qHq_new hH.1 ⟨fun k hk => ?_, fun k hk => ?_, fun k hk => ?_, fun k hk q hq => ?_, fun k hk => ?_⟩ (fun k hk => ?_) (by rw [hG.1 17 6 (by decide)]; exact Int.le_refl _) (by rw [hG.1 27 7 (by decide)]; exact Int.le_refl _) (by omega) (hG.1 76 7 (by decide)) (hG.1 76 8 (by decide)) (hG.2 77 (by decide)) (hG.2 78 (by decide)) (hG.2 79 (by decide)) (hG.2 80 (by decide)) hU, hc0⟩
        · rw [hG.2 20 (by decide), hz, hz, hz, if_neg (by omega), if_neg (by omega), if_neg (by omega)]
          exact m1 k hk
        · rw [hG.2 33 (by decide), hz, hz, hz, if_neg (by omega), if_neg (by omega), if_neg (by omega)]
          exact m2 k hk
        · rw [hG2.2 35 (by decide), x35, hz, hz, hz, hz, if_neg (show ¬ 192 + k = (72 + 2 * σ1 86 24 + 1 : Int).toNat by omega), if_neg (show ¬ 192 + k = (72 + 2 * σ1 86 24 : Int).toNat by omega), m3 k hk]
          by_cases c : k = (σ 34 7 : Int).toNat
          · rw [if_pos c, if_pos (by omega)]
          · rw [if_neg c, if_neg (by omega)]
        · rw [hG2.2 41 (by decide), x41, hz]
          have m := m4 k hk q hq
          have hq' : qcw (qzu (qzu (qzu (α 87) (192 + σ1 86 24 : Int).toNat (x1 % 10)) (72 + 2 * σ1 86 24 : Int).toNat c1) (72 + 2 * σ1 86 24 + 1 : Int).toNat c2) k q = qbi (qzu (qzu (qzu (α 87) (192 + σ1 86 24 : Int).toNat (x1 % 10)) (72 + 2 * σ1 86 24 : Int).toNat c1) (72 + 2 * σ1 86 24 + 1 : Int).toNat c2 (72 + 2 * k + (q / 16).toNat)) (q % 16) := rfl
          rw [hq', hz, hz, hz]
          by_cases c : k = (σ 34 7 : Int).toNat
          · rw [if_pos c]
            by_cases d : q < 32
            · rw [if_pos d]
              by_cases e : q < 16
              · rw [if_neg (by omega), if_pos (by omega), show q % 16 = q by omega]
                exact (yc q ⟨hq.1, e⟩).1.symm
              · rw [if_pos (by omega), show q % 16 = q - 16 by omega]
                have h5 := (yc (q - 16) ⟨by omega, by omega⟩).2
                rw [h5]
                congr 1
                omega
            · rw [if_neg d]
              have h6 : qlu x2 < 2 ^ 32 := by
                have h7 := qlu_nn (a := x2) ⟨by omega, by omega⟩
                rw [show (2 : Nat) ^ 32 = 4294967296 by decide]
                omega
              rw [qbit_if, Nat.testBit_lt_two_pow (Nat.lt_of_lt_of_le h6 (Nat.pow_le_pow_right (by decide) (show 32 ≤ q.toNat by omega)))]
              rfl
          · rw [if_neg c, m]
            by_cases d : q < 32
            · rw [if_pos d, if_pos d, if_neg (by omega), if_neg (by omega), if_neg (by omega)]
              rfl
            · rw [if_neg d, if_neg d]
        · rw [hz, hz, hz]
          split
          · exact yr.2
          · split
            · exact yr.1
            · split
              · omega
              · exact m5 k hk
        · by_cases c : (k : Int) < σ 34 7
          · have h4 := hn k c
            rw [h4.2.2.2]
            rcases hH.1.1.2 k c with hu | hu
            · exact Or.inl hu
            · exact Or.inr ⟨hu.1, hU k c _ hu.2⟩
          · have hk2 : k = (σ 34 7 : Int).toNat := by omega
            refine Or.inr ?_
            unfold qUn
            rw [hG2.2 35 (by decide), hG2.2 38 (by decide), hG2.2 39 (by decide), hG2.2 40 (by decide), x35, x38, x39, x40, hz, hz, hz, hz, if_pos hk2, if_pos hk2, if_pos hk2, if_pos hk2]
            exact ⟨by omega, rfl⟩
end
section
set_option maxHeartbeats 4000000 in
theorem ro_strike {σ α σ1 α1 σ2 α2 : Nat → Nat → Int} {κ : Nat → Option Nat} {ρ : Nat} {x1 x2 x3 x4 v1 v2 : Int} {f0 f1 g0 g1 : (Nat → Int) → Int} (hA0 : qAg f0 g0) (hA1 : qAg f1 g1) (hI : qI σ α κ ρ) (hR : qR σ α) (hK : qR2 σ α) (hF : qRF σ α) (hP : qRP σ α) (hH : qRH σ α) (hL : qRL σ α) (hN : qRN σ α) (hT : qRT σ α) (hW : qRS σ α) (hG1 : qFr [(17, 5), (58, 10), (58, 11), (58, 12), (70, 2), (70, 3), (70, 5), (70, 6), (76, 7), (76, 8)] [20, 33, 35, 41, 53, 57, 59, 60, 61, 62, 63, 71, 72, 77, 78, 79, 80, 85] σ α σ1 α1) (hG2 : qFr [(86, 4), (86, 5), (86, 10), (86, 15), (86, 23), (86, 29), (86, 30), (86, 35), (86, 36), (86, 37), (86, 38), (86, 39), (86, 50), (86, 51)] [87, 88, 89, 90, 96, 109, 115, 116] σ1 α1 σ2 α2) (hx0 : ((v1 = -1 ∧ ¬ (0 ≤ x1 ∧ x1 / 100 < σ 17 6 ∧ x1 % 100 < σ 17 6 ∧ ¬ x1 / 100 = x1 % 100 ∧ qst x2 (σ 17 6) ∧ 0 ≤ x3 ∧ x3 ≤ 2399 ∧ 0 ≤ x4 ∧ x4 ≤ 1 ∧ qbit (ql_and x2 (ql_xor (σ 17 5) (-1))) (x1 / 100) = 1 ∧ qbit (ql_and x2 (ql_xor (σ 17 5) (-1))) (x1 % 100) = 1) ∧ qHq σ1 α1 ((α 87, α 88, α 89, α 90, σ 86 5, σ 86 4) : qHS) ∧ σ1 70 2 = σ 70 2 ∧ σ1 70 3 = σ 70 3 ∧ α1 71 = α 71 ∧ σ1 17 5 = σ 17 5) ∨ ((0 ≤ x1 ∧ x1 / 100 < σ 17 6 ∧ x1 % 100 < σ 17 6 ∧ ¬ x1 / 100 = x1 % 100 ∧ qst x2 (σ 17 6) ∧ 0 ≤ x3 ∧ x3 ≤ 2399 ∧ 0 ≤ x4 ∧ x4 ≤ 1 ∧ qbit (ql_and x2 (ql_xor (σ 17 5) (-1))) (x1 / 100) = 1 ∧ qbit (ql_and x2 (ql_xor (σ 17 5) (-1))) (x1 % 100) = 1) ∧ v1 = ((qFINc σ α f0 f1 x3 (ql_and x2 (ql_xor (σ 17 5) (-1))) x1).1.length : Int) ∧ qTd σ1 α1 70 (qFINc σ α f0 f1 x3 (ql_and x2 (ql_xor (σ 17 5) (-1))) x1) ∧ ((x4 = 0 ∧ σ1 17 5 = σ 17 5 ∧ qHq σ1 α1 ((α 87, α 88, α 89, α 90, σ 86 5, σ 86 4) : qHS)) ∨ (x4 = 1 ∧ σ1 17 5 = ql_or (σ 17 5) (ql_and (ql_and x2 (ql_xor (σ 17 5) (-1))) (ql_xor (qFINc σ α f0 f1 x3 (ql_and x2 (ql_xor (σ 17 5) (-1))) x1).2.1 (-1))) ∧ qHq σ1 α1 (qkn (qFINc σ α f0 f1 x3 (ql_and x2 (ql_xor (σ 17 5) (-1))) x1).2.2.2 ((α 87, α 88, α 89, α 90, σ 86 5, σ 86 4) : qHS))))))) (hx1 : (∀ c : Nat, c < 496 → α1 61 c ≤ σ1 58 12)) (hx2 : (∀ c : Nat, c < 496 → α1 63 c ≤ σ1 58 12)) (hx3 : (0 ≤ σ1 58 12 ∧ σ1 58 12 ≤ σ 58 12 + 1)) (hx4 : σ1 58 10 = 0) (hy0 : ((v2 = -1 ∧ ¬ (0 ≤ x1 ∧ x1 / 100 < σ1 86 6 ∧ x1 % 100 < σ1 86 6 ∧ ¬ x1 / 100 = x1 % 100 ∧ qst x2 (σ1 86 6) ∧ 0 ≤ x3 ∧ x3 ≤ 2399 ∧ 0 ≤ x4 ∧ x4 ≤ 1 ∧ qbit (ql_and x2 (ql_xor (σ1 86 10) (-1))) (x1 / 100) = 1 ∧ qbit (ql_and x2 (ql_xor (σ1 86 10) (-1))) (x1 % 100) = 1) ∧ α2 87 = α1 87 ∧ α2 88 = α1 88 ∧ α2 89 = α1 89 ∧ α2 90 = α1 90 ∧ σ2 86 5 = σ1 86 5 ∧ σ2 86 4 = σ1 86 4 ∧ σ2 86 10 = σ1 86 10 ∧ σ2 86 50 = σ1 86 50 ∧ σ2 86 51 = σ1 86 51 ∧ α2 115 = α1 115 ∧ α2 116 = α1 116 ∧ σ2 86 29 = σ1 86 29) ∨ ((0 ≤ x1 ∧ x1 / 100 < σ1 86 6 ∧ x1 % 100 < σ1 86 6 ∧ ¬ x1 / 100 = x1 % 100 ∧ qst x2 (σ1 86 6) ∧ 0 ≤ x3 ∧ x3 ≤ 2399 ∧ 0 ≤ x4 ∧ x4 ≤ 1 ∧ qbit (ql_and x2 (ql_xor (σ1 86 10) (-1))) (x1 / 100) = 1 ∧ qbit (ql_and x2 (ql_xor (σ1 86 10) (-1))) (x1 % 100) = 1) ∧ v2 = ((qFINm σ1 α1 g0 g1 x3 (ql_and x2 (ql_xor (σ1 86 10) (-1))) x1).1.length : Int) ∧ qTe σ2 α2 (qFINm σ1 α1 g0 g1 x3 (ql_and x2 (ql_xor (σ1 86 10) (-1))) x1) ∧ ((x4 = 0 ∧ σ2 86 10 = σ1 86 10 ∧ (α2 87 = α1 87 ∧ α2 88 = α1 88 ∧ α2 89 = α1 89 ∧ α2 90 = α1 90 ∧ σ2 86 5 = σ1 86 5 ∧ σ2 86 4 = σ1 86 4) ∧ σ2 86 29 = 0) ∨ (x4 = 1 ∧ σ2 86 10 = ql_or (σ1 86 10) (ql_and (ql_and x2 (ql_xor (σ1 86 10) (-1))) (ql_xor (qFINm σ1 α1 g0 g1 x3 (ql_and x2 (ql_xor (σ1 86 10) (-1))) x1).2.1 (-1))) ∧ ((α2 87, α2 88, α2 89, α2 90, σ2 86 5, σ2 86 4) : qHS) = qkn (qFINm σ1 α1 g0 g1 x3 (ql_and x2 (ql_xor (σ1 86 10) (-1))) x1).2.2.2 ((α1 87, α1 88, α1 89, α1 90, σ1 86 5, σ1 86 4) : qHS) ∧ σ2 86 29 = 0)))))  : v1 = v2 ∧ qRH σ2 α2 ∧ qRN σ2 α2 ∧ qRT σ2 α2 := by
  have b6 : 0 ≤ σ 86 6 ∧ σ 86 6 ≤ 32 := hI.1 86 6
  have b16 : 0 ≤ σ 86 16 ∧ σ 86 16 ≤ 40 := hI.1 86 16
  have b24 : 0 ≤ σ 86 24 ∧ σ 86 24 ≤ 60 := hI.1 86 24
  have e6 := hR.1
  have e16 := hR.2.1
  have e24 := hR.2.2.1
  have c6 : σ1 86 6 = σ 86 6 := hG1.1 86 6 (by decide)
  have c10 : σ1 86 10 = σ 86 10 := hG1.1 86 10 (by decide)
  have n5 := hN.1
  have cF := qFINm_fr hG1 (by decide) (by decide)
  rw [e6, n5] at hx0
  rw [c6, c10, cF] at hy0
  have t22 : σ2 86 22 = 0 := (hG2.1 86 22 (by decide)).trans ((hG1.1 86 22 (by decide)).trans hN.2.2.2.1)
  have t41 : σ2 86 41 = 0 := (hG2.1 86 41 (by decide)).trans ((hG1.1 86 41 (by decide)).trans hN.2.2.2.2.2)
  have t27 : σ2 27 6 = 0 := (hG2.1 27 6 (by decide)).trans ((hG1.1 27 6 (by decide)).trans hN.2.1)
  have t10 : σ2 58 10 = 0 := (hG2.1 58 10 (by decide)).trans hx4
  have d5 : σ2 17 5 = σ1 17 5 := hG2.1 17 5 (by decide)
  have d72 : σ2 70 2 = σ1 70 2 := hG2.1 70 2 (by decide)
  have d73 : σ2 70 3 = σ1 70 3 := hG2.1 70 3 (by decide)
  have d71 : α2 71 = α1 71 := hG2.2 71 (by decide)
  have c29 : σ1 86 29 = σ 86 29 := hG1.1 86 29 (by decide)
  rcases hx0 with ⟨a1, a2, a3, a4, a5, a6, a7⟩ | ⟨a1, a2, a3, a4⟩
  · rcases hy0 with ⟨b1, b2, b3, b4, b5, b6', b7, b8, b9, b10, b11, b12, b13, b14⟩ | ⟨b1, b2, b3, b4⟩
    · refine ⟨by omega, ro_cs hH hG1 (by decide) (by decide) hG2 (by decide) (by decide) a3 ⟨b3, b4, b5, b6', b7, b8⟩, ?_, ?_⟩
      · exact ⟨by omega, t27, t10, t22, b14.trans (c29.trans hN.2.2.2.2.1), t41⟩
      · obtain ⟨q1, q2, q3⟩ := hT
        have c50 : σ1 86 50 = σ 86 50 := hG1.1 86 50 (by decide)
        have c51 : σ1 86 51 = σ 86 51 := hG1.1 86 51 (by decide)
        refine ⟨by omega, fun i hi => ?_, by omega⟩
        rw [d71, a6, b12, b13, hG1.2 115 (by decide), hG1.2 116 (by decide)]
        exact q2 i (by omega)
    · exact absurd b1 a2
  · rcases hy0 with ⟨b1, b2, b3⟩ | ⟨b1, b2, b3, b4⟩
    · exact absurd a1 b2
    · have ht := qrr_t hI hR hK hF hP hH hL hN hW hA0 hA1 (h := x3) (LV := (ql_and x2 (ql_xor (σ 86 10) (-1)))) (v := x1) ⟨⟨by omega, by omega⟩, ⟨by omega, by omega⟩, a1.2.2.2.1⟩
      rw [ht] at a2 a3 a4
      have hlen : 1 ≤ (qFINm σ α g0 g1 x3 (ql_and x2 (ql_xor (σ 86 10) (-1))) x1).1.length := by
        unfold qFINm
        exact Nat.le_trans (show 1 ≤ (qland (qHr σ α x3) (qBm σ α) (σ 86 24 : Int).toNat ([], (ql_and x2 (ql_xor (σ 86 10) (-1))), 0, []) x1).1.length from Nat.le_refl 1) (qtell_len 30 _)
      refine ⟨by omega, ?_, ?_, ?_⟩
      · rcases a4 with ⟨x4a, x4b, x4c⟩ | ⟨x4a, x4b, x4c⟩
        · rcases b4 with ⟨y4a, y4b, y4c, _⟩ | ⟨y4a, _⟩
          · exact ro_cs hH hG1 (by decide) (by decide) hG2 (by decide) (by decide) x4c y4c
          · exact False.elim (by omega)
        · rcases b4 with ⟨y4a, _⟩ | ⟨y4a, y4b, y4c, _⟩
          · exact False.elim (by omega)
          · rw [hG1.2 87 (by decide), hG1.2 88 (by decide), hG1.2 89 (by decide), hG1.2 90 (by decide), hG1.1 86 5 (by decide), hG1.1 86 4 (by decide)] at y4c
            unfold qRH
            rw [y4c]
            exact ⟨qHq_fr hG2 (by decide) (by decide) x4c, qCh_kn _ _ ⟨hH.1.2.2.1.1, Int.le_trans hH.1.2.2.1.2.1 hH.1.2.2.1.2.2⟩ hH.2⟩
      · rcases a4 with ⟨x4a, x4b, x4c⟩ | ⟨x4a, x4b, x4c⟩
        · rcases b4 with ⟨y4a, y4b, y4c, y4d⟩ | ⟨y4a, _⟩
          · exact ⟨by omega, t27, t10, t22, y4d, t41⟩
          · exact False.elim (by omega)
        · rcases b4 with ⟨y4a, _⟩ | ⟨y4a, y4b, y4c, y4d⟩
          · exact False.elim (by omega)
          · exact ⟨by rw [d5, x4b, y4b], t27, t10, t22, y4d, t41⟩
      · have h1 := a3.1.1
        have h2 := b3.1.1
        refine ⟨by omega, fun i hi => ?_, Or.inr ⟨by omega, ?_⟩⟩
        · have h3 := a3.1.2 i (by omega)
          have h4 := b3.1.2 i (by omega)
          have h3' : α1 71 i = (qFINm σ α g0 g1 x3 (ql_and x2 (ql_xor (σ 86 10) (-1))) x1).1[i]'(by omega) := h3
          rw [d71, h3', h4.1, h4.2]
          omega
        · rw [d73, a3.2.1, b3.2]

set_option maxHeartbeats 4000000 in
theorem ro_worst {σ α σ1 α1 σ2 α2 : Nat → Nat → Int} {κ : Nat → Option Nat} {ρ : Nat} {x1 x2 v1 v2 : Int} {f0 f1 g0 g1 : (Nat → Int) → Int} (hA0 : qAg f0 g0) (hA1 : qAg f1 g1) (hI : qI σ α κ ρ) (hR : qR σ α) (hK : qR2 σ α) (hF : qRF σ α) (hP : qRP σ α) (hH : qRH σ α) (hL : qRL σ α) (hN : qRN σ α) (hT : qRT σ α) (hW : qRS σ α) (hG1 : qFr [(58, 10), (58, 11), (58, 12), (73, 2), (73, 3), (73, 5), (73, 6)] [53, 57, 59, 60, 61, 62, 63, 74, 75, 85] σ α σ1 α1) (hG2 : qFr [(86, 10), (86, 15), (86, 23), (86, 29), (86, 30), (86, 35), (86, 36), (86, 37), (86, 38), (86, 39), (86, 50), (86, 51)] [96, 109, 115, 116, 117, 118] σ1 α1 σ2 α2) (hx0 : ((v1 = -1 ∧ ¬ (qst x1 (σ 17 6) ∧ 0 ≤ x2 ∧ x2 ≤ 2399)) ∨ ((qst x1 (σ 17 6) ∧ 0 ≤ x2 ∧ x2 ≤ 2399) ∧ qwF (fun u : Int => 0 ≤ u ∧ u / 100 < σ 17 6 ∧ u % 100 < σ 17 6 ∧ ¬ u / 100 = u % 100 ∧ qbit (ql_and x1 (ql_xor (σ 17 5) (-1))) (u / 100) = 1 ∧ qbit (ql_and x1 (ql_xor (σ 17 5) (-1))) (u % 100) = 1) (fun u : Int => qcn (qFINc σ α f0 f1 x2 (ql_and x1 (ql_xor (σ 17 5) (-1))) u).2.1 64) v1))) (hx1 : (∀ c : Nat, c < 496 → α1 61 c ≤ σ1 58 12)) (hx2 : (∀ c : Nat, c < 496 → α1 63 c ≤ σ1 58 12)) (hx3 : (0 ≤ σ1 58 12 ∧ σ1 58 12 ≤ σ 58 12 + 1)) (hx4 : σ1 58 10 = 0) (hy0 : ((v2 = -1 ∧ ¬ (qst x1 (σ1 86 6) ∧ 0 ≤ x2 ∧ x2 ≤ 2399)) ∨ ((qst x1 (σ1 86 6) ∧ 0 ≤ x2 ∧ x2 ≤ 2399) ∧ qwF (fun u : Int => 0 ≤ u ∧ u / 100 < σ1 86 6 ∧ u % 100 < σ1 86 6 ∧ ¬ u / 100 = u % 100 ∧ qbit (ql_and x1 (ql_xor (σ1 86 10) (-1))) (u / 100) = 1 ∧ qbit (ql_and x1 (ql_xor (σ1 86 10) (-1))) (u % 100) = 1) (fun u : Int => qcn (qFINm σ1 α1 g0 g1 x2 (ql_and x1 (ql_xor (σ1 86 10) (-1))) u).2.1 64) v2))) (hy1 : (∀ j : Nat, (j : Int) < 31 → α2 115 j = α1 115 j)) (hy2 : (∀ j : Nat, (j : Int) < 31 → α2 116 j = α1 116 j)) (hy3 : σ2 86 10 = σ1 86 10) (hy4 : σ2 86 29 = 0) (hy5 : σ2 86 50 = σ1 86 50) (hy6 : σ2 86 51 = σ1 86 51)  : v1 = v2 ∧ qRN σ2 α2 ∧ qRT σ2 α2 := by
  have b6 : 0 ≤ σ 86 6 ∧ σ 86 6 ≤ 32 := hI.1 86 6
  have b16 : 0 ≤ σ 86 16 ∧ σ 86 16 ≤ 40 := hI.1 86 16
  have b24 : 0 ≤ σ 86 24 ∧ σ 86 24 ≤ 60 := hI.1 86 24
  have e6 := hR.1
  have e16 := hR.2.1
  have e24 := hR.2.2.1
  have c6 : σ1 86 6 = σ 86 6 := hG1.1 86 6 (by decide)
  have c10 : σ1 86 10 = σ 86 10 := hG1.1 86 10 (by decide)
  have n5 := hN.1
  have cF := qFINm_fr hG1 (by decide) (by decide)
  rw [e6, n5] at hx0
  simp only [c6, c10, cF] at hy0
  refine ⟨?_, ?_, ?_⟩
  · rcases hx0 with ⟨a1, a2⟩ | ⟨a1, a2⟩
    · rcases hy0 with ⟨b1, b2⟩ | ⟨b1, b2⟩
      · omega
      · exact absurd b1 a2
    · rcases hy0 with ⟨b1, b2⟩ | ⟨b1, b2⟩
      · exact absurd a1 b2
      · refine qwF_un (qwF_cg (fun u => Iff.rfl) (fun u hu => ?_) a2) b2
        show qcn (qFINc σ α f0 f1 x2 (ql_and x1 (ql_xor (σ 86 10) (-1))) u).2.1 64 = qcn (qFINm σ α g0 g1 x2 (ql_and x1 (ql_xor (σ 86 10) (-1))) u).2.1 64
        rw [qrr_t hI hR hK hF hP hH hL hN hW hA0 hA1 ⟨⟨by have := hu.1; omega, hu.2.1⟩, ⟨by have := hu.1; omega, hu.2.2.1⟩, hu.2.2.2.1⟩]
  · refine ⟨?_, ?_, ?_, ?_, hy4, ?_⟩
    · rw [hG2.1 17 5 (by decide), hG1.1 17 5 (by decide), hy3, c10, n5]
    · exact (hG2.1 27 6 (by decide)).trans ((hG1.1 27 6 (by decide)).trans hN.2.1)
    · exact (hG2.1 58 10 (by decide)).trans hx4
    · exact (hG2.1 86 22 (by decide)).trans ((hG1.1 86 22 (by decide)).trans hN.2.2.2.1)
    · exact (hG2.1 86 41 (by decide)).trans ((hG1.1 86 41 (by decide)).trans hN.2.2.2.2.2)
  · obtain ⟨q1, q2, q3⟩ := hT
    have c50 : σ1 86 50 = σ 86 50 := hG1.1 86 50 (by decide)
    have c51 : σ1 86 51 = σ 86 51 := hG1.1 86 51 (by decide)
    have d72 : σ2 70 2 = σ 70 2 := (hG2.1 70 2 (by decide)).trans (hG1.1 70 2 (by decide))
    have d73 : σ2 70 3 = σ 70 3 := (hG2.1 70 3 (by decide)).trans (hG1.1 70 3 (by decide))
    have b50 : 0 ≤ σ 86 50 ∧ σ 86 50 ≤ 31 := hI.1 86 50
    refine ⟨by omega, fun i hi => ?_, by omega⟩
    rw [hG2.2 71 (by decide), hG1.2 71 (by decide), hy1 i (by omega), hy2 i (by omega), hG1.2 115 (by decide), hG1.2 116 (by decide)]
    exact q2 i (by omega)
end
section
def qT3 : Nat → Int := fun j => if j < 4 then qz_i2c (qz_and ((qe_bytes 3).getD j 0) 255) else 0
theorem qT3_o (j : Nat) (h : 4 ≤ j) : qT3 j = 0 := if_neg (by omega)
theorem qT3_i (j : Nat) (h : j < 4) : qT3 j = qz_i2c (qz_and ((qe_bytes 3).getD j 0) 255) := if_pos h
theorem qT3_v : qT3 0 = 102 ∧ qT3 1 = 38 ∧ qT3 2 = 33 ∧ qT3 3 = 99 := by decide +kernel
theorem qT3_b (j : Nat) (h : (j : Int) < 4) : 0 ≤ qT3 j ∧ qT3 j ≤ 255 := by
  obtain ⟨h0, h1, h2, h3⟩ := qT3_v
  have hj : j = 0 ∨ j = 1 ∨ j = 2 ∨ j = 3 := by omega
  rcases hj with rfl | rfl | rfl | rfl
  · omega
  · omega
  · omega
  · omega
theorem qT3_r (j : Nat) : -2147483648 ≤ qT3 j ∧ qT3 j ≤ 2147483647 := by
  by_cases h : j < 4
  · have := qT3_b j (by omega)
    omega
  · have := qT3_o j (by omega)
    omega

def qT5 : Nat → Int := fun j => if j < 5 then qz_i2c (qz_and ((qe_bytes 5).getD j 0) 255) else 0
theorem qT5_o (j : Nat) (h : 5 ≤ j) : qT5 j = 0 := if_neg (by omega)
theorem qT5_i (j : Nat) (h : j < 5) : qT5 j = qz_i2c (qz_and ((qe_bytes 5).getD j 0) 255) := if_pos h
theorem qT5_v : qT5 0 = 100 ∧ qT5 1 = 60 ∧ qT5 2 = 50 ∧ qT5 3 = 38 ∧ qT5 4 = 119 := by decide +kernel
theorem qT5_b (j : Nat) (h : (j : Int) < 5) : 0 ≤ qT5 j ∧ qT5 j ≤ 255 := by
  obtain ⟨h0, h1, h2, h3, h4⟩ := qT5_v
  have hj : j = 0 ∨ j = 1 ∨ j = 2 ∨ j = 3 ∨ j = 4 := by omega
  rcases hj with rfl | rfl | rfl | rfl | rfl
  · omega
  · omega
  · omega
  · omega
  · omega
theorem qT5_r (j : Nat) : -2147483648 ≤ qT5 j ∧ qT5 j ≤ 2147483647 := by
  by_cases h : j < 5
  · have := qT5_b j (by omega)
    omega
  · have := qT5_o j (by omega)
    omega

set_option maxHeartbeats 2000000 in
set_option maxRecDepth 20000 in
/-- sp_lca3 -/
theorem spx_lca3 {L : Nat} {xs : Nat → Int} {vb : Bool} {d : Nat} {w : qm_W} {i : Int} (h : 0 ≤ i ∧ i < 4)  : qm_T (qe L xs vb) (d + 3) 15 [.ref 7, .int (qz i)] (w) (fun r w' => w' = w ∧ r = some (.int (qz (qz_i2c (qz_and ((qe_bytes 3).getD i.toNat 0) 255))))) := by
  refine qr_start (d := d + 2) qv_e15 (Nat.le_of_ble_eq_true rfl) ?_
  show qr_W (qe L xs vb) (d + 2) qx_e15 _ (0, [(0, .ref 7), (1, .int (qz i))], [], w, 0, 0)
  refine qr_iload_n 1 rfl rfl rfl ?_
  refine qr_aload_n 2 rfl rfl rfl ?_
  refine qr_alen 3 rfl rfl (Or.inl (by decide)) rfl ?_
  refine qr_callN 6 rfl rfl rfl (sp_sci (n := ((4 : Nat) : Int)) (by omega)) ?_
  rintro _ _ ⟨rfl, rfl⟩
  simp only [Option.toList, List.drop, List.cons_append, List.nil_append]
  refine qr_aload_n 7 rfl rfl rfl ?_
  refine qr_iload_n 8 rfl rfl rfl ?_
  refine qr_bbload 9 rfl (by decide) rfl (by omega) (by decide) rfl ?_
  refine qr_sipush 12 rfl (by decide) rfl ?_
  refine qr_iand 13 rfl rfl ?_
  refine qr_i2c 14 rfl rfl ?_
  refine qr_retN rfl rfl (qz_nc _) (Nat.zero_le _) (Nat.zero_le _) ?_
  exact ⟨rfl, rfl⟩

set_option maxHeartbeats 2000000 in
set_option maxRecDepth 20000 in
/-- sp_cha3 -/
theorem spx_cha3 {L : Nat} {xs : Nat → Int} {vb : Bool} {d : Nat} {w : qm_W} {i : Int} (h : 0 ≤ i ∧ i < 4)  : qm_T (qe L xs vb) (d + 4) 13 [.ref 3, .int (qz i)] (w) (fun r w' => w' = w ∧ r = some (.int (qz (qz_i2c (qz_and ((qe_bytes 3).getD i.toNat 0) 255))))) := by
  refine qr_start (d := d + 3) qv_e13 (Nat.le_of_ble_eq_true rfl) ?_
  show qr_W (qe L xs vb) (d + 3) qx_e13 _ (0, [(0, .ref 3), (1, .int (qz i))], [], w, 0, 0)
  refine qr_aload_n 1 rfl rfl rfl ?_
  refine qr_callN 4 rfl rfl rfl (sp_lat3) ?_
  rintro _ _ ⟨rfl, rfl⟩
  simp only [Option.toList, List.drop, List.cons_append, List.nil_append]
  refine qr_if_eq (a := 1) 16 7 rfl rfl rfl (by decide) (fun h => absurd h (by decide)) (fun _ => ?_)
  refine qr_aload_n 8 rfl rfl rfl ?_
  refine qr_get 11 rfl rfl rfl (by decide) rfl ?_
  refine qr_iload_n 12 rfl rfl rfl ?_
  refine qr_callN 15 rfl rfl rfl (spx_lca3 h) ?_
  rintro _ _ ⟨rfl, rfl⟩
  simp only [Option.toList, List.drop, List.cons_append, List.nil_append]
  refine qr_retN rfl rfl (qz_nc _) (Nat.zero_le _) (Nat.zero_le _) ?_
  exact ⟨rfl, rfl⟩

set_option maxHeartbeats 2000000 in
set_option maxRecDepth 20000 in
/-- sp_lca5 -/
theorem spx_lca5 {L : Nat} {xs : Nat → Int} {vb : Bool} {d : Nat} {w : qm_W} {i : Int} (h : 0 ≤ i ∧ i < 5)  : qm_T (qe L xs vb) (d + 3) 15 [.ref 9, .int (qz i)] (w) (fun r w' => w' = w ∧ r = some (.int (qz (qz_i2c (qz_and ((qe_bytes 5).getD i.toNat 0) 255))))) := by
  refine qr_start (d := d + 2) qv_e15 (Nat.le_of_ble_eq_true rfl) ?_
  show qr_W (qe L xs vb) (d + 2) qx_e15 _ (0, [(0, .ref 9), (1, .int (qz i))], [], w, 0, 0)
  refine qr_iload_n 1 rfl rfl rfl ?_
  refine qr_aload_n 2 rfl rfl rfl ?_
  refine qr_alen 3 rfl rfl (Or.inl (by decide)) rfl ?_
  refine qr_callN 6 rfl rfl rfl (sp_sci (n := ((5 : Nat) : Int)) (by omega)) ?_
  rintro _ _ ⟨rfl, rfl⟩
  simp only [Option.toList, List.drop, List.cons_append, List.nil_append]
  refine qr_aload_n 7 rfl rfl rfl ?_
  refine qr_iload_n 8 rfl rfl rfl ?_
  refine qr_bbload 9 rfl (by decide) rfl (by omega) (by decide) rfl ?_
  refine qr_sipush 12 rfl (by decide) rfl ?_
  refine qr_iand 13 rfl rfl ?_
  refine qr_i2c 14 rfl rfl ?_
  refine qr_retN rfl rfl (qz_nc _) (Nat.zero_le _) (Nat.zero_le _) ?_
  exact ⟨rfl, rfl⟩

set_option maxHeartbeats 2000000 in
set_option maxRecDepth 20000 in
/-- sp_cha5 -/
theorem spx_cha5 {L : Nat} {xs : Nat → Int} {vb : Bool} {d : Nat} {w : qm_W} {i : Int} (h : 0 ≤ i ∧ i < 5)  : qm_T (qe L xs vb) (d + 4) 13 [.ref 5, .int (qz i)] (w) (fun r w' => w' = w ∧ r = some (.int (qz (qz_i2c (qz_and ((qe_bytes 5).getD i.toNat 0) 255))))) := by
  refine qr_start (d := d + 3) qv_e13 (Nat.le_of_ble_eq_true rfl) ?_
  show qr_W (qe L xs vb) (d + 3) qx_e13 _ (0, [(0, .ref 5), (1, .int (qz i))], [], w, 0, 0)
  refine qr_aload_n 1 rfl rfl rfl ?_
  refine qr_callN 4 rfl rfl rfl (sp_lat5) ?_
  rintro _ _ ⟨rfl, rfl⟩
  simp only [Option.toList, List.drop, List.cons_append, List.nil_append]
  refine qr_if_eq (a := 1) 16 7 rfl rfl rfl (by decide) (fun h => absurd h (by decide)) (fun _ => ?_)
  refine qr_aload_n 8 rfl rfl rfl ?_
  refine qr_get 11 rfl rfl rfl (by decide) rfl ?_
  refine qr_iload_n 12 rfl rfl rfl ?_
  refine qr_callN 15 rfl rfl rfl (spx_lca5 h) ?_
  rintro _ _ ⟨rfl, rfl⟩
  simp only [Option.toList, List.drop, List.cons_append, List.nil_append]
  refine qr_retN rfl rfl (qz_nc _) (Nat.zero_le _) (Nat.zero_le _) ?_
  exact ⟨rfl, rfl⟩

set_option maxHeartbeats 2000000 in
set_option maxRecDepth 20000 in
/-- Custom.<init> -/
theorem spx_cinit3 {L : Nat} {xs : Nat → Int} {vb : Bool} {d : Nat} {u : qm_W} {a : Nat} (ha : a = 16 + u.length)  : qm_T (qe L xs vb) (d + 57) 9 [.ref a, .ref 3] (u ++ [.inr (7, [.null, .null, .null, .int (qz 0), .int (qz 0), .int (qz 0), .int (qz 0), .int (qz 0)])]) (fun r w' => r = none ∧ ∃ (at2 sz2 nm2 sk2 : Int) (cd : Nat → Int) (v : Int), w' = u ++ [qc_o a 4 at2 sz2 nm2 sk2, .inl (.int, 120, .inl (qzf qT3)), .inl (.int, 122, .inl (qzf cd)), .inl (.int, 120, .inl (qzf (fun _ => 0)))] ∧ (0 ≤ at2 ∧ at2 ≤ 4 ∧ 0 ≤ sz2 ∧ sz2 ≤ 122 ∧ -2147483648 ≤ nm2 ∧ nm2 ≤ 2147483647 ∧ (sk2 = 0 ∨ sk2 = 1)) ∧ qRt 4 qT3 v sz2 nm2 cd) := by
  refine qr_start (d := d + 56) qv_e9 (Nat.le_of_ble_eq_true rfl) ?_
  show qr_W (qe L xs vb) (d + 56) qx_e9 _ (0, [(0, .ref a), (1, .ref 3)], [], u ++ [.inr (7, [.null, .null, .null, .int (qz 0), .int (qz 0), .int (qz 0), .int (qz 0), .int (qz 0)])], 0, 0)
  have loop : ∀ (n : Nat) (i : Int) (t : Nat → Int), (0 ≤ i ∧ i ≤ 4 ∧ 4 - i < n) → t = (fun j : Nat => if (j : Int) < i then qT3 j else 0) → qr_W (qe L xs vb) (d + 56) qx_e9 (fun r w' => r = none ∧ ∃ (at2 sz2 nm2 sk2 : Int) (cd : Nat → Int) (v : Int), w' = u ++ [qc_o a 4 at2 sz2 nm2 sk2, .inl (.int, 120, .inl (qzf qT3)), .inl (.int, 122, .inl (qzf cd)), .inl (.int, 120, .inl (qzf (fun _ => 0)))] ∧ (0 ≤ at2 ∧ at2 ≤ 4 ∧ 0 ≤ sz2 ∧ sz2 ≤ 122 ∧ -2147483648 ≤ nm2 ∧ nm2 ≤ 2147483647 ∧ (sk2 = 0 ∨ sk2 = 1)) ∧ qRt 4 qT3 v sz2 nm2 cd) (71, [(2, .int (qz i)), (0, .ref a), (1, .ref 3)], [], qc (u ++ [(qc_o a 0 0 0 0 0), (.inl (.int, 120, .inl (qzf (fun _ => 0)))), (.inl (.int, 122, .inl (qzf (fun _ => 0)))), (.inl (.int, 120, .inl (qzf (fun _ => 0))))]) a 4 0 0 0 0 t (fun _ => 0), 3, 362) := by
    intro n
    induction n with
    | zero => intro i t h1 h2; exact absurd h1 (by omega)
    | succ n ih =>
      intro i t h1 ht
      have hi := qi_in u ha (qc_o a 0 0 0 0 0) (.inl (.int, 120, .inl (qzf (fun _ => 0)))) (.inl (.int, 122, .inl (qzf (fun _ => 0)))) (.inl (.int, 120, .inl (qzf (fun _ => 0))))
      refine qr_iload_n 72 rfl rfl rfl ?_
      refine qr_aload_n 73 rfl rfl rfl ?_
      refine qr_cget3 hi 76 rfl rfl ?_
      refine qr_icmp_ge 96 79 rfl rfl rfl (by omega) (by omega) (fun h => ?_) (fun h => ?_)
      · have et : t = qT3 := by
          rw [ht]
          funext j
          by_cases c : (j : Int) < i
          · exact if_pos c
          · exact (if_neg c).trans (qT3_o j (by omega)).symm
        subst et
        refine qr_aload_n 97 rfl rfl rfl ?_
        refine qr_ccallC (as := []) (rest := []) hi 100 rfl rfl (Nat.le_of_ble_eq_true rfl) (Nat.le_of_ble_eq_true rfl) (Nat.le_of_ble_eq_true rfl) rfl rfl (spx_lines hi qT3_r qT3_b (by omega)) ?_
        rintro _ _ ⟨v, at2, sz2, nm2, sk2, cd2, rfl, rfl, hb, hq⟩
        simp only [Option.toList, List.cons_append, List.nil_append]
        refine qr_pop 101 rfl rfl rfl ?_
        refine qr_retV rfl rfl (Nat.le_of_ble_eq_true rfl) (Nat.le_of_ble_eq_true rfl) ?_
        exact ⟨rfl, at2, sz2, nm2, sk2, cd2, v, qi_qc u ha _ _ _ _ _ _ _ _ _ _ _, by omega, hq⟩
      · refine qr_aload_n 80 rfl rfl rfl ?_
        refine qr_cget0 hi 83 rfl rfl ?_
        refine qr_iload_n 84 rfl rfl rfl ?_
        refine qr_aload_n 85 rfl rfl rfl ?_
        refine qr_iload_n 86 rfl rfl rfl ?_
        refine qr_callC 89 rfl rfl rfl (Nat.le_of_ble_eq_true rfl) (Nat.le_of_ble_eq_true rfl) (spx_cha3 ⟨by omega, by omega⟩) ?_
        rintro _ _ ⟨rfl, rfl⟩
        simp only [Option.toList, List.drop, List.cons_append, List.nil_append]
        refine qr_ctstore hi 90 rfl (by omega) rfl ?_
        refine qr_iincG (fun v => [(2, .int (qz v)), (0, .ref a), (1, .ref 3)]) 93 rfl rfl (by decide) (fun _ => rfl) rfl (fun v hv => ?_)
        refine qr_goto 71 rfl rfl ?_
        refine ih v _ (by omega) ?_
        funext j
        unfold qzu
        by_cases c : j = i.toNat
        · rw [if_pos c, if_pos (show (j : Int) < v by omega), qT3_i j (by omega), c]
        · have e : t j = if (j : Int) < i then qT3 j else 0 := congrFun ht j
          rw [if_neg c, e]
          by_cases d : (j : Int) < i
          · rw [if_pos d, if_pos (show (j : Int) < v by omega)]
          · rw [if_neg d, if_neg (show ¬ (j : Int) < v by omega)]
  refine qr_aload_n 1 rfl rfl rfl ?_
  refine qr_objinit 4 rfl (by decide) rfl ?_
  refine qr_aload_n 5 rfl rfl rfl ?_
  refine qr_bipush 7 rfl (by decide) rfl ?_
  refine qr_inewI ha [.inr (7, [.null, .null, .null, .int (qz 0), .int (qz 0), .int (qz 0), .int (qz 0), .int (qz 0)]), .inl (.int, 120, .inl (qzf (fun _ => 0)))] 9 1 120 1 rfl (by decide) (Nat.le_of_ble_eq_true rfl) (Nat.le_of_ble_eq_true rfl) rfl rfl rfl rfl rfl ?_
  refine qr_iput ha [.ref (a + 1), .null, .null, .int (qz 0), .int (qz 0), .int (qz 0), .int (qz 0), .int (qz 0)] 12 rfl (Nat.le_of_ble_eq_true rfl) (Nat.le_of_ble_eq_true rfl) (Or.inr ⟨by decide, rfl⟩) (qr_fitR (Or.inr ⟨_, rfl⟩) _) rfl rfl ?_
  refine qr_aload_n 13 rfl rfl rfl ?_
  refine qr_bipush 15 rfl (by decide) rfl ?_
  refine qr_inewI ha [.inr (7, [.ref (a + 1), .null, .null, .int (qz 0), .int (qz 0), .int (qz 0), .int (qz 0), .int (qz 0)]), .inl (.int, 120, .inl (qzf (fun _ => 0))), .inl (.int, 122, .inl (qzf (fun _ => 0)))] 17 2 242 2 rfl (by decide) (Nat.le_of_ble_eq_true rfl) (Nat.le_of_ble_eq_true rfl) rfl rfl rfl rfl rfl ?_
  refine qr_iput ha [.ref (a + 1), .ref (a + 2), .null, .int (qz 0), .int (qz 0), .int (qz 0), .int (qz 0), .int (qz 0)] 20 rfl (Nat.le_of_ble_eq_true rfl) (Nat.le_of_ble_eq_true rfl) (Or.inr ⟨by decide, rfl⟩) (qr_fitR (Or.inr ⟨_, rfl⟩) _) rfl rfl ?_
  refine qr_aload_n 21 rfl rfl rfl ?_
  refine qr_bipush 23 rfl (by decide) rfl ?_
  refine qr_inewI ha [.inr (7, [.ref (a + 1), .ref (a + 2), .null, .int (qz 0), .int (qz 0), .int (qz 0), .int (qz 0), .int (qz 0)]), .inl (.int, 120, .inl (qzf (fun _ => 0))), .inl (.int, 122, .inl (qzf (fun _ => 0))), .inl (.int, 120, .inl (qzf (fun _ => 0)))] 25 3 362 3 rfl (by decide) (Nat.le_of_ble_eq_true rfl) (Nat.le_of_ble_eq_true rfl) rfl rfl rfl rfl rfl ?_
  refine qr_iput ha [.ref (a + 1), .ref (a + 2), .ref (a + 3), .int (qz 0), .int (qz 0), .int (qz 0), .int (qz 0), .int (qz 0)] 28 rfl (Nat.le_of_ble_eq_true rfl) (Nat.le_of_ble_eq_true rfl) (Or.inr ⟨by decide, rfl⟩) (qr_fitR (Or.inr ⟨_, rfl⟩) _) rfl rfl ?_
  refine qr_aload_n 29 rfl rfl rfl ?_
  refine qr_iconst 30 rfl rfl ?_
  refine qr_iput ha [.ref (a + 1), .ref (a + 2), .ref (a + 3), .int (qz 0), .int (qz 0), .int (qz 0), .int (qz 0), .int (qz 0)] 33 rfl (Nat.le_of_ble_eq_true rfl) (Nat.le_of_ble_eq_true rfl) (Or.inl rfl) (qr_fitI rfl _) rfl rfl ?_
  refine qr_aload_n 34 rfl rfl rfl ?_
  refine qr_iconst 35 rfl rfl ?_
  refine qr_iput ha [.ref (a + 1), .ref (a + 2), .ref (a + 3), .int (qz 0), .int (qz 0), .int (qz 0), .int (qz 0), .int (qz 0)] 38 rfl (Nat.le_of_ble_eq_true rfl) (Nat.le_of_ble_eq_true rfl) (Or.inl rfl) (qr_fitI rfl _) rfl rfl ?_
  refine qr_aload_n 39 rfl rfl rfl ?_
  refine qr_iconst 40 rfl rfl ?_
  refine qr_iput ha [.ref (a + 1), .ref (a + 2), .ref (a + 3), .int (qz 0), .int (qz 0), .int (qz 0), .int (qz 0), .int (qz 0)] 43 rfl (Nat.le_of_ble_eq_true rfl) (Nat.le_of_ble_eq_true rfl) (Or.inl rfl) (qr_fitI rfl _) rfl rfl ?_
  refine qr_aload_n 44 rfl rfl rfl ?_
  refine qr_iconst 45 rfl rfl ?_
  refine qr_iput ha [.ref (a + 1), .ref (a + 2), .ref (a + 3), .int (qz 0), .int (qz 0), .int (qz 0), .int (qz 0), .int (qz 0)] 48 rfl (Nat.le_of_ble_eq_true rfl) (Nat.le_of_ble_eq_true rfl) (Or.inl rfl) (qr_fitI rfl _) rfl rfl ?_
  refine qr_aload_n 49 rfl rfl rfl ?_
  refine qr_iconst 50 rfl rfl ?_
  refine qr_iput ha [.ref (a + 1), .ref (a + 2), .ref (a + 3), .int (qz 0), .int (qz 0), .int (qz 0), .int (qz 0), .int (qz 0)] 53 rfl (Nat.le_of_ble_eq_true rfl) (Nat.le_of_ble_eq_true rfl) (Or.inl rfl) (qr_fitZ rfl (by omega)) rfl rfl ?_
  have hi := qi_in u ha (qc_o a 0 0 0 0 0) (.inl (.int, 120, .inl (qzf (fun _ => 0)))) (.inl (.int, 122, .inl (qzf (fun _ => 0)))) (.inl (.int, 120, .inl (qzf (fun _ => 0))))
  refine qi_go (ln := 0) (at_ := 0) (sz := 0) (nm := 0) (sk := 0) (t := fun _ => 0) (cd := fun _ => 0) ha (qc_o a 0 0 0 0 0) (.inl (.int, 120, .inl (qzf (fun _ => 0)))) (.inl (.int, 122, .inl (qzf (fun _ => 0)))) (.inl (.int, 120, .inl (qzf (fun _ => 0)))) ?_
  refine qr_aload_n 54 rfl rfl rfl ?_
  refine qr_aload_n 55 rfl rfl rfl ?_
  refine qr_callC 58 rfl rfl rfl (Nat.le_of_ble_eq_true rfl) (Nat.le_of_ble_eq_true rfl) sp_len3 ?_
  rintro _ _ ⟨rfl, rfl⟩
  simp only [Option.toList, List.drop, List.cons_append, List.nil_append]
  refine qr_aload_n 59 rfl rfl rfl ?_
  refine qr_cget0 hi 62 rfl rfl ?_
  refine qr_ctlen hi 63 rfl rfl ?_
  refine qr_callC 66 rfl rfl rfl (Nat.le_of_ble_eq_true rfl) (Nat.le_of_ble_eq_true rfl) (sp_mmin (by omega) (by omega)) ?_
  rintro _ _ ⟨rfl, b, rfl, hb⟩
  simp only [Option.toList, List.drop, List.cons_append, List.nil_append]
  have eb : b = 4 := by omega
  subst eb
  refine qr_cput3 hi 69 rfl rfl ?_
  refine qr_iconst 70 rfl rfl ?_
  refine qr_istore_n [(2, .int (qz 0)), (0, .ref a), (1, .ref 3)] 71 rfl (by decide) rfl rfl ?_
  exact loop 5 0 (fun _ => 0) (by omega) (funext fun j => (if_neg (show ¬ (j : Int) < 0 by omega)).symm)

set_option maxHeartbeats 2000000 in
set_option maxRecDepth 20000 in
/-- Custom.<init> -/
theorem spx_cinit5 {L : Nat} {xs : Nat → Int} {vb : Bool} {d : Nat} {u : qm_W} {a : Nat} (ha : a = 16 + u.length)  : qm_T (qe L xs vb) (d + 57) 9 [.ref a, .ref 5] (u ++ [.inr (7, [.null, .null, .null, .int (qz 0), .int (qz 0), .int (qz 0), .int (qz 0), .int (qz 0)])]) (fun r w' => r = none ∧ ∃ (at2 sz2 nm2 sk2 : Int) (cd : Nat → Int) (v : Int), w' = u ++ [qc_o a 5 at2 sz2 nm2 sk2, .inl (.int, 120, .inl (qzf qT5)), .inl (.int, 122, .inl (qzf cd)), .inl (.int, 120, .inl (qzf (fun _ => 0)))] ∧ (0 ≤ at2 ∧ at2 ≤ 5 ∧ 0 ≤ sz2 ∧ sz2 ≤ 122 ∧ -2147483648 ≤ nm2 ∧ nm2 ≤ 2147483647 ∧ (sk2 = 0 ∨ sk2 = 1)) ∧ qRt 5 qT5 v sz2 nm2 cd) := by
  refine qr_start (d := d + 56) qv_e9 (Nat.le_of_ble_eq_true rfl) ?_
  show qr_W (qe L xs vb) (d + 56) qx_e9 _ (0, [(0, .ref a), (1, .ref 5)], [], u ++ [.inr (7, [.null, .null, .null, .int (qz 0), .int (qz 0), .int (qz 0), .int (qz 0), .int (qz 0)])], 0, 0)
  have loop : ∀ (n : Nat) (i : Int) (t : Nat → Int), (0 ≤ i ∧ i ≤ 5 ∧ 5 - i < n) → t = (fun j : Nat => if (j : Int) < i then qT5 j else 0) → qr_W (qe L xs vb) (d + 56) qx_e9 (fun r w' => r = none ∧ ∃ (at2 sz2 nm2 sk2 : Int) (cd : Nat → Int) (v : Int), w' = u ++ [qc_o a 5 at2 sz2 nm2 sk2, .inl (.int, 120, .inl (qzf qT5)), .inl (.int, 122, .inl (qzf cd)), .inl (.int, 120, .inl (qzf (fun _ => 0)))] ∧ (0 ≤ at2 ∧ at2 ≤ 5 ∧ 0 ≤ sz2 ∧ sz2 ≤ 122 ∧ -2147483648 ≤ nm2 ∧ nm2 ≤ 2147483647 ∧ (sk2 = 0 ∨ sk2 = 1)) ∧ qRt 5 qT5 v sz2 nm2 cd) (71, [(2, .int (qz i)), (0, .ref a), (1, .ref 5)], [], qc (u ++ [(qc_o a 0 0 0 0 0), (.inl (.int, 120, .inl (qzf (fun _ => 0)))), (.inl (.int, 122, .inl (qzf (fun _ => 0)))), (.inl (.int, 120, .inl (qzf (fun _ => 0))))]) a 5 0 0 0 0 t (fun _ => 0), 3, 362) := by
    intro n
    induction n with
    | zero => intro i t h1 h2; exact absurd h1 (by omega)
    | succ n ih =>
      intro i t h1 ht
      have hi := qi_in u ha (qc_o a 0 0 0 0 0) (.inl (.int, 120, .inl (qzf (fun _ => 0)))) (.inl (.int, 122, .inl (qzf (fun _ => 0)))) (.inl (.int, 120, .inl (qzf (fun _ => 0))))
      refine qr_iload_n 72 rfl rfl rfl ?_
      refine qr_aload_n 73 rfl rfl rfl ?_
      refine qr_cget3 hi 76 rfl rfl ?_
      refine qr_icmp_ge 96 79 rfl rfl rfl (by omega) (by omega) (fun h => ?_) (fun h => ?_)
      · have et : t = qT5 := by
          rw [ht]
          funext j
          by_cases c : (j : Int) < i
          · exact if_pos c
          · exact (if_neg c).trans (qT5_o j (by omega)).symm
        subst et
        refine qr_aload_n 97 rfl rfl rfl ?_
        refine qr_ccallC (as := []) (rest := []) hi 100 rfl rfl (Nat.le_of_ble_eq_true rfl) (Nat.le_of_ble_eq_true rfl) (Nat.le_of_ble_eq_true rfl) rfl rfl (spx_lines hi qT5_r qT5_b (by omega)) ?_
        rintro _ _ ⟨v, at2, sz2, nm2, sk2, cd2, rfl, rfl, hb, hq⟩
        simp only [Option.toList, List.cons_append, List.nil_append]
        refine qr_pop 101 rfl rfl rfl ?_
        refine qr_retV rfl rfl (Nat.le_of_ble_eq_true rfl) (Nat.le_of_ble_eq_true rfl) ?_
        exact ⟨rfl, at2, sz2, nm2, sk2, cd2, v, qi_qc u ha _ _ _ _ _ _ _ _ _ _ _, by omega, hq⟩
      · refine qr_aload_n 80 rfl rfl rfl ?_
        refine qr_cget0 hi 83 rfl rfl ?_
        refine qr_iload_n 84 rfl rfl rfl ?_
        refine qr_aload_n 85 rfl rfl rfl ?_
        refine qr_iload_n 86 rfl rfl rfl ?_
        refine qr_callC 89 rfl rfl rfl (Nat.le_of_ble_eq_true rfl) (Nat.le_of_ble_eq_true rfl) (spx_cha5 ⟨by omega, by omega⟩) ?_
        rintro _ _ ⟨rfl, rfl⟩
        simp only [Option.toList, List.drop, List.cons_append, List.nil_append]
        refine qr_ctstore hi 90 rfl (by omega) rfl ?_
        refine qr_iincG (fun v => [(2, .int (qz v)), (0, .ref a), (1, .ref 5)]) 93 rfl rfl (by decide) (fun _ => rfl) rfl (fun v hv => ?_)
        refine qr_goto 71 rfl rfl ?_
        refine ih v _ (by omega) ?_
        funext j
        unfold qzu
        by_cases c : j = i.toNat
        · rw [if_pos c, if_pos (show (j : Int) < v by omega), qT5_i j (by omega), c]
        · have e : t j = if (j : Int) < i then qT5 j else 0 := congrFun ht j
          rw [if_neg c, e]
          by_cases d : (j : Int) < i
          · rw [if_pos d, if_pos (show (j : Int) < v by omega)]
          · rw [if_neg d, if_neg (show ¬ (j : Int) < v by omega)]
  refine qr_aload_n 1 rfl rfl rfl ?_
  refine qr_objinit 4 rfl (by decide) rfl ?_
  refine qr_aload_n 5 rfl rfl rfl ?_
  refine qr_bipush 7 rfl (by decide) rfl ?_
  refine qr_inewI ha [.inr (7, [.null, .null, .null, .int (qz 0), .int (qz 0), .int (qz 0), .int (qz 0), .int (qz 0)]), .inl (.int, 120, .inl (qzf (fun _ => 0)))] 9 1 120 1 rfl (by decide) (Nat.le_of_ble_eq_true rfl) (Nat.le_of_ble_eq_true rfl) rfl rfl rfl rfl rfl ?_
  refine qr_iput ha [.ref (a + 1), .null, .null, .int (qz 0), .int (qz 0), .int (qz 0), .int (qz 0), .int (qz 0)] 12 rfl (Nat.le_of_ble_eq_true rfl) (Nat.le_of_ble_eq_true rfl) (Or.inr ⟨by decide, rfl⟩) (qr_fitR (Or.inr ⟨_, rfl⟩) _) rfl rfl ?_
  refine qr_aload_n 13 rfl rfl rfl ?_
  refine qr_bipush 15 rfl (by decide) rfl ?_
  refine qr_inewI ha [.inr (7, [.ref (a + 1), .null, .null, .int (qz 0), .int (qz 0), .int (qz 0), .int (qz 0), .int (qz 0)]), .inl (.int, 120, .inl (qzf (fun _ => 0))), .inl (.int, 122, .inl (qzf (fun _ => 0)))] 17 2 242 2 rfl (by decide) (Nat.le_of_ble_eq_true rfl) (Nat.le_of_ble_eq_true rfl) rfl rfl rfl rfl rfl ?_
  refine qr_iput ha [.ref (a + 1), .ref (a + 2), .null, .int (qz 0), .int (qz 0), .int (qz 0), .int (qz 0), .int (qz 0)] 20 rfl (Nat.le_of_ble_eq_true rfl) (Nat.le_of_ble_eq_true rfl) (Or.inr ⟨by decide, rfl⟩) (qr_fitR (Or.inr ⟨_, rfl⟩) _) rfl rfl ?_
  refine qr_aload_n 21 rfl rfl rfl ?_
  refine qr_bipush 23 rfl (by decide) rfl ?_
  refine qr_inewI ha [.inr (7, [.ref (a + 1), .ref (a + 2), .null, .int (qz 0), .int (qz 0), .int (qz 0), .int (qz 0), .int (qz 0)]), .inl (.int, 120, .inl (qzf (fun _ => 0))), .inl (.int, 122, .inl (qzf (fun _ => 0))), .inl (.int, 120, .inl (qzf (fun _ => 0)))] 25 3 362 3 rfl (by decide) (Nat.le_of_ble_eq_true rfl) (Nat.le_of_ble_eq_true rfl) rfl rfl rfl rfl rfl ?_
  refine qr_iput ha [.ref (a + 1), .ref (a + 2), .ref (a + 3), .int (qz 0), .int (qz 0), .int (qz 0), .int (qz 0), .int (qz 0)] 28 rfl (Nat.le_of_ble_eq_true rfl) (Nat.le_of_ble_eq_true rfl) (Or.inr ⟨by decide, rfl⟩) (qr_fitR (Or.inr ⟨_, rfl⟩) _) rfl rfl ?_
  refine qr_aload_n 29 rfl rfl rfl ?_
  refine qr_iconst 30 rfl rfl ?_
  refine qr_iput ha [.ref (a + 1), .ref (a + 2), .ref (a + 3), .int (qz 0), .int (qz 0), .int (qz 0), .int (qz 0), .int (qz 0)] 33 rfl (Nat.le_of_ble_eq_true rfl) (Nat.le_of_ble_eq_true rfl) (Or.inl rfl) (qr_fitI rfl _) rfl rfl ?_
  refine qr_aload_n 34 rfl rfl rfl ?_
  refine qr_iconst 35 rfl rfl ?_
  refine qr_iput ha [.ref (a + 1), .ref (a + 2), .ref (a + 3), .int (qz 0), .int (qz 0), .int (qz 0), .int (qz 0), .int (qz 0)] 38 rfl (Nat.le_of_ble_eq_true rfl) (Nat.le_of_ble_eq_true rfl) (Or.inl rfl) (qr_fitI rfl _) rfl rfl ?_
  refine qr_aload_n 39 rfl rfl rfl ?_
  refine qr_iconst 40 rfl rfl ?_
  refine qr_iput ha [.ref (a + 1), .ref (a + 2), .ref (a + 3), .int (qz 0), .int (qz 0), .int (qz 0), .int (qz 0), .int (qz 0)] 43 rfl (Nat.le_of_ble_eq_true rfl) (Nat.le_of_ble_eq_true rfl) (Or.inl rfl) (qr_fitI rfl _) rfl rfl ?_
  refine qr_aload_n 44 rfl rfl rfl ?_
  refine qr_iconst 45 rfl rfl ?_
  refine qr_iput ha [.ref (a + 1), .ref (a + 2), .ref (a + 3), .int (qz 0), .int (qz 0), .int (qz 0), .int (qz 0), .int (qz 0)] 48 rfl (Nat.le_of_ble_eq_true rfl) (Nat.le_of_ble_eq_true rfl) (Or.inl rfl) (qr_fitI rfl _) rfl rfl ?_
  refine qr_aload_n 49 rfl rfl rfl ?_
  refine qr_iconst 50 rfl rfl ?_
  refine qr_iput ha [.ref (a + 1), .ref (a + 2), .ref (a + 3), .int (qz 0), .int (qz 0), .int (qz 0), .int (qz 0), .int (qz 0)] 53 rfl (Nat.le_of_ble_eq_true rfl) (Nat.le_of_ble_eq_true rfl) (Or.inl rfl) (qr_fitZ rfl (by omega)) rfl rfl ?_
  have hi := qi_in u ha (qc_o a 0 0 0 0 0) (.inl (.int, 120, .inl (qzf (fun _ => 0)))) (.inl (.int, 122, .inl (qzf (fun _ => 0)))) (.inl (.int, 120, .inl (qzf (fun _ => 0))))
  refine qi_go (ln := 0) (at_ := 0) (sz := 0) (nm := 0) (sk := 0) (t := fun _ => 0) (cd := fun _ => 0) ha (qc_o a 0 0 0 0 0) (.inl (.int, 120, .inl (qzf (fun _ => 0)))) (.inl (.int, 122, .inl (qzf (fun _ => 0)))) (.inl (.int, 120, .inl (qzf (fun _ => 0)))) ?_
  refine qr_aload_n 54 rfl rfl rfl ?_
  refine qr_aload_n 55 rfl rfl rfl ?_
  refine qr_callC 58 rfl rfl rfl (Nat.le_of_ble_eq_true rfl) (Nat.le_of_ble_eq_true rfl) sp_len5 ?_
  rintro _ _ ⟨rfl, rfl⟩
  simp only [Option.toList, List.drop, List.cons_append, List.nil_append]
  refine qr_aload_n 59 rfl rfl rfl ?_
  refine qr_cget0 hi 62 rfl rfl ?_
  refine qr_ctlen hi 63 rfl rfl ?_
  refine qr_callC 66 rfl rfl rfl (Nat.le_of_ble_eq_true rfl) (Nat.le_of_ble_eq_true rfl) (sp_mmin (by omega) (by omega)) ?_
  rintro _ _ ⟨rfl, b, rfl, hb⟩
  simp only [Option.toList, List.drop, List.cons_append, List.nil_append]
  have eb : b = 5 := by omega
  subst eb
  refine qr_cput3 hi 69 rfl rfl ?_
  refine qr_iconst 70 rfl rfl ?_
  refine qr_istore_n [(2, .int (qz 0)), (0, .ref a), (1, .ref 5)] 71 rfl (by decide) rfl rfl ?_
  exact loop 6 0 (fun _ => 0) (by omega) (funext fun j => (if_neg (show ¬ (j : Int) < 0 by omega)).symm)

/-- the customs of a fresh object -/
def qo_cu (s g : Nat → Nat → Int) : Prop := (∃ v : Int, qRt 4 qT3 v (s 0 5) (s 0 6) (g 52)) ∧ ∃ v : Int, qRt 5 qT5 v (s 1 5) (s 1 6) (g 56)

set_option maxHeartbeats 2000000 in
set_option maxRecDepth 20000 in
/-- OneRoof.<init> -/
theorem si_Roof2 {L : Nat} {xs : Nat → Int} {vb : Bool} {d : Nat}  : qm_T (qe L xs vb) (d + 58) 1 [.ref 16] ([.inr (0, [.null, .null, .null, .null, .null, .null, .null, .null, .null, .null, .null, .null, .null, .null, .null, .int (qz 0)])]) (fun r w' => r = none ∧ ∃ s g : Nat → Nat → Int, w' = (qw (qo_s s) (qo_r g) qo_k 82).take 70 ∧ qo_ok s g ∧ qo_cu s g) := by
  refine qr_start (d := d + 57) qv_e1 (Nat.le_of_ble_eq_true rfl) ?_
  show qr_W (qe L xs vb) (d + 57) qx_e1 _ (0, [(0, .ref 16)], [], [.inr (0, [.null, .null, .null, .null, .null, .null, .null, .null, .null, .null, .null, .null, .null, .null, .null, .int (qz 0)])], 0, 0)
  have hR0 : (([] : qm_W)).length = 0 := rfl
  generalize hE0 : ([] : qm_W) = R0 at hR0 ⊢
  refine qr_aload_n 1 rfl rfl rfl ?_
  refine qr_objinit 4 rfl (by decide) rfl ?_
  refine qr_aload_n 5 rfl rfl rfl ?_
  refine qr_new ((.inr (0, [.null, .null, .null, .null, .null, .null, .null, .null, .null, .null, .null, .null, .null, .null, .null, .int (qz 0)]) :: R0) ++ [.inr (1, [.null, .null, .null, .null, .null, .long (ql 0), .int (qz 0)])]) 8 1 7 rfl rfl (Nat.le_of_ble_eq_true rfl) (Nat.le_of_ble_eq_true rfl) rfl rfl rfl 17 (by simp only [List.length_append, List.length_cons, List.length_nil, hR0]) rfl ?_
  refine qr_dup 9 rfl rfl rfl ?_
  refine qr_call 12 6 167 rfl rfl (Nat.le_of_ble_eq_true rfl) (Nat.le_of_ble_eq_true rfl) rfl rfl (si_Folk (a := 17) (u := .inr (0, [.null, .null, .null, .null, .null, .null, .null, .null, .null, .null, .null, .null, .null, .null, .null, .int (qz 0)]) :: R0) (qo_len hR0 17 rfl)) ?_
  rintro _ _ ⟨rfl, rfl⟩
  simp only [Option.toList, List.drop, List.nil_append]
  refine qo_put [.ref 17, .null, .null, .null, .null, .null, .null, .null, .null, .null, .null, .null, .null, .null, .null, .int (qz 0)] 15 hR0 rfl (m2 := 6) (m3 := 6) rfl rfl (Nat.le_of_ble_eq_true rfl) (Nat.le_of_ble_eq_true rfl) (Or.inr ⟨by decide, rfl⟩) (qr_fitR (Or.inl ⟨_, rfl⟩) _) rfl rfl (fun R1 hE1 hR1 => ?_)
  refine qr_aload_n 16 rfl rfl rfl ?_
  refine qr_new ((.inr (0, [.ref 17, .null, .null, .null, .null, .null, .null, .null, .null, .null, .null, .null, .null, .null, .null, .int (qz 0)]) :: R1) ++ [.inr (2, [.null, .int (qz 0)])]) 19 7 169 rfl rfl (Nat.le_of_ble_eq_true rfl) (Nat.le_of_ble_eq_true rfl) rfl rfl rfl 23 (by simp only [List.length_append, List.length_cons, List.length_nil, hR1]) rfl ?_
  refine qr_dup 20 rfl rfl rfl ?_
  refine qr_call 23 8 1193 rfl rfl (Nat.le_of_ble_eq_true rfl) (Nat.le_of_ble_eq_true rfl) rfl rfl (si_Kinship (a := 23) (u := .inr (0, [.ref 17, .null, .null, .null, .null, .null, .null, .null, .null, .null, .null, .null, .null, .null, .null, .int (qz 0)]) :: R1) (qo_len hR1 23 rfl)) ?_
  rintro _ _ ⟨rfl, g23, rfl, hg23⟩
  simp only [Option.toList, List.drop, List.nil_append]
  refine qo_put [.ref 17, .ref 23, .null, .null, .null, .null, .null, .null, .null, .null, .null, .null, .null, .null, .null, .int (qz 0)] 26 hR1 rfl (m2 := 2) (m3 := 8) rfl rfl (Nat.le_of_ble_eq_true rfl) (Nat.le_of_ble_eq_true rfl) (Or.inr ⟨by decide, rfl⟩) (qr_fitR (Or.inl ⟨_, rfl⟩) _) rfl rfl (fun R2 hE2 hR2 => ?_)
  refine qr_aload_n 27 rfl rfl rfl ?_
  refine qr_new ((.inr (0, [.ref 17, .ref 23, .null, .null, .null, .null, .null, .null, .null, .null, .null, .null, .null, .null, .null, .int (qz 0)]) :: R2) ++ [.inr (2, [.null, .int (qz 0)])]) 30 9 1195 rfl rfl (Nat.le_of_ble_eq_true rfl) (Nat.le_of_ble_eq_true rfl) rfl rfl rfl 25 (by simp only [List.length_append, List.length_cons, List.length_nil, hR2]) rfl ?_
  refine qr_dup 31 rfl rfl rfl ?_
  refine qr_call 34 10 2219 rfl rfl (Nat.le_of_ble_eq_true rfl) (Nat.le_of_ble_eq_true rfl) rfl rfl (si_Kinship (a := 25) (u := .inr (0, [.ref 17, .ref 23, .null, .null, .null, .null, .null, .null, .null, .null, .null, .null, .null, .null, .null, .int (qz 0)]) :: R2) (qo_len hR2 25 rfl)) ?_
  rintro _ _ ⟨rfl, g25, rfl, hg25⟩
  simp only [Option.toList, List.drop, List.nil_append]
  refine qo_put [.ref 17, .ref 23, .ref 25, .null, .null, .null, .null, .null, .null, .null, .null, .null, .null, .null, .null, .int (qz 0)] 37 hR2 rfl (m2 := 2) (m3 := 10) rfl rfl (Nat.le_of_ble_eq_true rfl) (Nat.le_of_ble_eq_true rfl) (Or.inr ⟨by decide, rfl⟩) (qr_fitR (Or.inl ⟨_, rfl⟩) _) rfl rfl (fun R3 hE3 hR3 => ?_)
  refine qr_aload_n 38 rfl rfl rfl ?_
  refine qr_new ((.inr (0, [.ref 17, .ref 23, .ref 25, .null, .null, .null, .null, .null, .null, .null, .null, .null, .null, .null, .null, .int (qz 0)]) :: R3) ++ [.inr (3, [.null, .null, .null, .null, .null, .null, .long (ql 0), .int (qz 0)])]) 41 11 2227 rfl rfl (Nat.le_of_ble_eq_true rfl) (Nat.le_of_ble_eq_true rfl) rfl rfl rfl 27 (by simp only [List.length_append, List.length_cons, List.length_nil, hR3]) rfl ?_
  refine qr_dup 42 rfl rfl rfl ?_
  refine qr_call 45 17 2467 rfl rfl (Nat.le_of_ble_eq_true rfl) (Nat.le_of_ble_eq_true rfl) rfl rfl (si_Feuds (a := 27) (u := .inr (0, [.ref 17, .ref 23, .ref 25, .null, .null, .null, .null, .null, .null, .null, .null, .null, .null, .null, .null, .int (qz 0)]) :: R3) (qo_len hR3 27 rfl)) ?_
  rintro _ _ ⟨rfl, rfl⟩
  simp only [Option.toList, List.drop, List.nil_append]
  refine qo_put [.ref 17, .ref 23, .ref 25, .ref 27, .null, .null, .null, .null, .null, .null, .null, .null, .null, .null, .null, .int (qz 0)] 48 hR3 rfl (m2 := 7) (m3 := 17) rfl rfl (Nat.le_of_ble_eq_true rfl) (Nat.le_of_ble_eq_true rfl) (Or.inr ⟨by decide, rfl⟩) (qr_fitR (Or.inl ⟨_, rfl⟩) _) rfl rfl (fun R4 hE4 hR4 => ?_)
  refine qr_aload_n 49 rfl rfl rfl ?_
  refine qr_new ((.inr (0, [.ref 17, .ref 23, .ref 25, .ref 27, .null, .null, .null, .null, .null, .null, .null, .null, .null, .null, .null, .int (qz 0)]) :: R4) ++ [.inr (4, [.null, .null, .null, .null, .null, .null, .null, .int (qz 0)])]) 52 18 2475 rfl rfl (Nat.le_of_ble_eq_true rfl) (Nat.le_of_ble_eq_true rfl) rfl rfl rfl 34 (by simp only [List.length_append, List.length_cons, List.length_nil, hR4]) rfl ?_
  refine qr_dup 53 rfl rfl rfl ?_
  refine qr_call 56 25 2895 rfl rfl (Nat.le_of_ble_eq_true rfl) (Nat.le_of_ble_eq_true rfl) rfl rfl (si_Peaces (a := 34) (u := .inr (0, [.ref 17, .ref 23, .ref 25, .ref 27, .null, .null, .null, .null, .null, .null, .null, .null, .null, .null, .null, .int (qz 0)]) :: R4) (qo_len hR4 34 rfl)) ?_
  rintro _ _ ⟨rfl, rfl⟩
  simp only [Option.toList, List.drop, List.nil_append]
  refine qo_put [.ref 17, .ref 23, .ref 25, .ref 27, .ref 34, .null, .null, .null, .null, .null, .null, .null, .null, .null, .null, .int (qz 0)] 59 hR4 rfl (m2 := 8) (m3 := 25) rfl rfl (Nat.le_of_ble_eq_true rfl) (Nat.le_of_ble_eq_true rfl) (Or.inr ⟨by decide, rfl⟩) (qr_fitR (Or.inl ⟨_, rfl⟩) _) rfl rfl (fun R5 hE5 hR5 => ?_)
  refine qr_aload_n 60 rfl rfl rfl ?_
  refine qr_new ((.inr (0, [.ref 17, .ref 23, .ref 25, .ref 27, .ref 34, .null, .null, .null, .null, .null, .null, .null, .null, .null, .null, .int (qz 0)]) :: R5) ++ [.inr (5, [.null, .int (qz 0)])]) 63 26 2897 rfl rfl (Nat.le_of_ble_eq_true rfl) (Nat.le_of_ble_eq_true rfl) rfl rfl rfl 42 (by simp only [List.length_append, List.length_cons, List.length_nil, hR5]) rfl ?_
  refine qr_dup 64 rfl rfl rfl ?_
  refine qr_call 67 27 2921 rfl rfl (Nat.le_of_ble_eq_true rfl) (Nat.le_of_ble_eq_true rfl) rfl rfl (si_Acts (a := 42) (u := .inr (0, [.ref 17, .ref 23, .ref 25, .ref 27, .ref 34, .null, .null, .null, .null, .null, .null, .null, .null, .null, .null, .int (qz 0)]) :: R5) (qo_len hR5 42 rfl)) ?_
  rintro _ _ ⟨rfl, rfl⟩
  simp only [Option.toList, List.drop, List.nil_append]
  refine qo_put [.ref 17, .ref 23, .ref 25, .ref 27, .ref 34, .ref 42, .null, .null, .null, .null, .null, .null, .null, .null, .null, .int (qz 0)] 70 hR5 rfl (m2 := 2) (m3 := 27) rfl rfl (Nat.le_of_ble_eq_true rfl) (Nat.le_of_ble_eq_true rfl) (Or.inr ⟨by decide, rfl⟩) (qr_fitR (Or.inl ⟨_, rfl⟩) _) rfl rfl (fun R6 hE6 hR6 => ?_)
  refine qr_aload_n 71 rfl rfl rfl ?_
  refine qr_new ((.inr (0, [.ref 17, .ref 23, .ref 25, .ref 27, .ref 34, .ref 42, .null, .null, .null, .null, .null, .null, .null, .null, .null, .int (qz 0)]) :: R6) ++ [.inr (6, [.null, .null, .null, .null])]) 74 28 2925 rfl rfl (Nat.le_of_ble_eq_true rfl) (Nat.le_of_ble_eq_true rfl) rfl rfl rfl 44 (by simp only [List.length_append, List.length_cons, List.length_nil, hR6]) rfl ?_
  refine qr_dup 75 rfl rfl rfl ?_
  refine qr_call 78 32 3303 rfl rfl (Nat.le_of_ble_eq_true rfl) (Nat.le_of_ble_eq_true rfl) rfl rfl (si_Pegs (a := 44) (u := .inr (0, [.ref 17, .ref 23, .ref 25, .ref 27, .ref 34, .ref 42, .null, .null, .null, .null, .null, .null, .null, .null, .null, .int (qz 0)]) :: R6) (qo_len hR6 44 rfl)) ?_
  rintro _ _ ⟨rfl, rfl⟩
  simp only [Option.toList, List.drop, List.nil_append]
  refine qo_put [.ref 17, .ref 23, .ref 25, .ref 27, .ref 34, .ref 42, .ref 44, .null, .null, .null, .null, .null, .null, .null, .null, .int (qz 0)] 81 hR6 rfl (m2 := 5) (m3 := 32) rfl rfl (Nat.le_of_ble_eq_true rfl) (Nat.le_of_ble_eq_true rfl) (Or.inr ⟨by decide, rfl⟩) (qr_fitR (Or.inl ⟨_, rfl⟩) _) rfl rfl (fun R7 hE7 hR7 => ?_)
  refine qr_aload_n 82 rfl rfl rfl ?_
  refine qr_iconst 83 rfl rfl ?_
  refine qr_newQ (.inr (0, [.ref 17, .ref 23, .ref 25, .ref 27, .ref 34, .ref 42, .ref 44, .null, .null, .null, .null, .null, .null, .null, .null, .int (qz 0)]) :: R7 ++ [.inl (.object "OneRoof$Custom", 2, .inr (.inr (.inr (.inr (fun _ => none)))))]) 86 33 3305 rfl (by decide) (Nat.le_of_ble_eq_true rfl) (Nat.le_of_ble_eq_true rfl) rfl rfl rfl 49 (by simp only [List.length_cons, hR7]) rfl ?_
  refine qr_dup 87 rfl rfl rfl ?_
  refine qr_iconst 88 rfl rfl ?_
  refine qr_new (((.inr (0, [.ref 17, .ref 23, .ref 25, .ref 27, .ref 34, .ref 42, .ref 44, .null, .null, .null, .null, .null, .null, .null, .null, .int (qz 0)]) :: R7 ++ [.inl (.object "OneRoof$Custom", 2, .inr (.inr (.inr (.inr (fun _ => none)))))])) ++ [.inr (7, [.null, .null, .null, .int (qz 0), .int (qz 0), .int (qz 0), .int (qz 0), .int (qz 0)])]) 91 34 3313 rfl rfl (Nat.le_of_ble_eq_true rfl) (Nat.le_of_ble_eq_true rfl) rfl rfl rfl 50 (by simp only [List.length_append, List.length_cons, List.length_nil, hR7]) rfl ?_
  refine qr_dup 92 rfl rfl rfl ?_
  refine qr_ldcs 94 rfl rfl ?_
  refine qr_call 97 37 3675 rfl rfl (Nat.le_of_ble_eq_true rfl) (Nat.le_of_ble_eq_true rfl) rfl rfl (spx_cinit3 (a := 50) (u := (.inr (0, [.ref 17, .ref 23, .ref 25, .ref 27, .ref 34, .ref 42, .ref 44, .null, .null, .null, .null, .null, .null, .null, .null, .int (qz 0)]) :: R7 ++ [.inl (.object "OneRoof$Custom", 2, .inr (.inr (.inr (.inr (fun _ => none)))))])) (by simp only [List.length_append, List.length_cons, List.length_nil, hR7])) ?_
  rintro _ _ ⟨rfl, at3, sz3, nm3, sk3, cd3, v3, rfl, hb3, hq3⟩
  simp only [Option.toList, List.nil_append]
  refine qo_aast (u := .inr (0, [.ref 17, .ref 23, .ref 25, .ref 27, .ref 34, .ref 42, .ref 44, .null, .null, .null, .null, .null, .null, .null, .null, .int (qz 0)]) :: R7) (a := 49) (b := 50) (j := 0) (T := [(qc_o 50 4 at3 sz3 nm3 sk3), .inl (.int, 120, .inl (qzf qT3)), .inl (.int, 122, .inl (qzf cd3)), .inl (.int, 120, .inl (qzf (fun _ => 0)))]) 98 (qo_len hR7 49 rfl) rfl rfl rfl (by decide) (by omega) rfl ?_
  refine qr_dup 99 rfl rfl rfl ?_
  refine qr_iconst 100 rfl rfl ?_
  refine qr_new ((((.inr (0, [.ref 17, .ref 23, .ref 25, .ref 27, .ref 34, .ref 42, .ref 44, .null, .null, .null, .null, .null, .null, .null, .null, .int (qz 0)]) :: R7 ++ [.inl (.object "OneRoof$Custom", 2, .inr (.inr (.inr (.inr (va_up (fun _ => none) (0 : Int).toNat (some 50))))))]) ++ [(qc_o 50 4 at3 sz3 nm3 sk3), .inl (.int, 120, .inl (qzf qT3)), .inl (.int, 122, .inl (qzf cd3)), .inl (.int, 120, .inl (qzf (fun _ => 0)))])) ++ [.inr (7, [.null, .null, .null, .int (qz 0), .int (qz 0), .int (qz 0), .int (qz 0), .int (qz 0)])]) 103 38 3683 rfl rfl (Nat.le_of_ble_eq_true rfl) (Nat.le_of_ble_eq_true rfl) rfl rfl rfl 54 (by simp only [List.length_append, List.length_cons, List.length_nil, hR7]) rfl ?_
  refine qr_dup 104 rfl rfl rfl ?_
  refine qr_ldcs 106 rfl rfl ?_
  refine qr_call 109 41 4045 rfl rfl (Nat.le_of_ble_eq_true rfl) (Nat.le_of_ble_eq_true rfl) rfl rfl (spx_cinit5 (a := 54) (u := ((.inr (0, [.ref 17, .ref 23, .ref 25, .ref 27, .ref 34, .ref 42, .ref 44, .null, .null, .null, .null, .null, .null, .null, .null, .int (qz 0)]) :: R7 ++ [.inl (.object "OneRoof$Custom", 2, .inr (.inr (.inr (.inr (va_up (fun _ => none) (0 : Int).toNat (some 50))))))]) ++ [(qc_o 50 4 at3 sz3 nm3 sk3), .inl (.int, 120, .inl (qzf qT3)), .inl (.int, 122, .inl (qzf cd3)), .inl (.int, 120, .inl (qzf (fun _ => 0)))])) (by simp only [List.length_append, List.length_cons, List.length_nil, hR7])) ?_
  rintro _ _ ⟨rfl, at5, sz5, nm5, sk5, cd5, v5, rfl, hb5, hq5⟩
  simp only [Option.toList, List.nil_append]
  rw [List.append_assoc (_ ++ [_])]
  refine qo_aast (u := .inr (0, [.ref 17, .ref 23, .ref 25, .ref 27, .ref 34, .ref 42, .ref 44, .null, .null, .null, .null, .null, .null, .null, .null, .int (qz 0)]) :: R7) (a := 49) (b := 54) (j := 4) (T := [(qc_o 50 4 at3 sz3 nm3 sk3), .inl (.int, 120, .inl (qzf qT3)), .inl (.int, 122, .inl (qzf cd3)), .inl (.int, 120, .inl (qzf (fun _ => 0))), (qc_o 54 5 at5 sz5 nm5 sk5), .inl (.int, 120, .inl (qzf qT5)), .inl (.int, 122, .inl (qzf cd5)), .inl (.int, 120, .inl (qzf (fun _ => 0)))]) 110 (qo_len hR7 49 rfl) rfl rfl rfl (by decide) (by omega) rfl ?_
  rw [List.append_assoc]
  refine qo_put [.ref 17, .ref 23, .ref 25, .ref 27, .ref 34, .ref 42, .ref 44, .ref 49, .null, .null, .null, .null, .null, .null, .null, .int (qz 0)] 113 hR7 rfl (m2 := 9) (m3 := 41) rfl rfl (Nat.le_of_ble_eq_true rfl) (Nat.le_of_ble_eq_true rfl) (Or.inr ⟨by decide, rfl⟩) (qr_fitR (Or.inr ⟨_, rfl⟩) _) rfl rfl (fun R8 hE8 hR8 => ?_)
  refine qr_aload_n 114 rfl rfl rfl ?_
  refine qr_new ((.inr (0, [.ref 17, .ref 23, .ref 25, .ref 27, .ref 34, .ref 42, .ref 44, .ref 49, .null, .null, .null, .null, .null, .null, .null, .int (qz 0)]) :: R8) ++ [.inr (8, [.null, .null, .null, .null, .null, .null, .null, .null, .null, .null, .long (ql 0), .int (qz 0), .int (qz 0)])]) 117 42 4058 rfl rfl (Nat.le_of_ble_eq_true rfl) (Nat.le_of_ble_eq_true rfl) rfl rfl rfl 58 (by simp only [List.length_append, List.length_cons, List.length_nil, hR8]) rfl ?_
  refine qr_dup 118 rfl rfl rfl ?_
  refine qr_aload_n 119 rfl rfl rfl ?_
  refine qr_get 122 rfl rfl rfl (by decide) rfl ?_
  refine qr_aload_n 123 rfl rfl rfl ?_
  refine qr_get 126 rfl rfl rfl (by decide) rfl ?_
  refine qr_aload_n 127 rfl rfl rfl ?_
  refine qr_get 130 rfl rfl rfl (by decide) rfl ?_
  refine qr_aload_n 131 rfl rfl rfl ?_
  refine qr_get 134 rfl rfl rfl (by decide) rfl ?_
  refine qr_aload_n 135 rfl rfl rfl ?_
  refine qr_get 138 rfl rfl rfl (by decide) rfl ?_
  refine qr_call 141 47 6051 rfl rfl (Nat.le_of_ble_eq_true rfl) (Nat.le_of_ble_eq_true rfl) rfl rfl (si_Moment (a := 58) (u := .inr (0, [.ref 17, .ref 23, .ref 25, .ref 27, .ref 34, .ref 42, .ref 44, .ref 49, .null, .null, .null, .null, .null, .null, .null, .int (qz 0)]) :: R8) (qo_len hR8 58 rfl)) ?_
  rintro _ _ ⟨rfl, rfl⟩
  simp only [Option.toList, List.drop, List.nil_append]
  refine qo_put [.ref 17, .ref 23, .ref 25, .ref 27, .ref 34, .ref 42, .ref 44, .ref 49, .ref 58, .null, .null, .null, .null, .null, .null, .int (qz 0)] 144 hR8 rfl (m2 := 6) (m3 := 47) rfl rfl (Nat.le_of_ble_eq_true rfl) (Nat.le_of_ble_eq_true rfl) (Or.inr ⟨by decide, rfl⟩) (qr_fitR (Or.inl ⟨_, rfl⟩) _) rfl rfl (fun R9 hE9 hR9 => ?_)
  refine qr_aload_n 145 rfl rfl rfl ?_
  refine qr_new ((.inr (0, [.ref 17, .ref 23, .ref 25, .ref 27, .ref 34, .ref 42, .ref 44, .ref 49, .ref 58, .null, .null, .null, .null, .null, .null, .int (qz 0)]) :: R9) ++ [.inr (9, [.null, .null, .int (qz 0), .null, .null, .null, .null, .int (qz 0)])]) 148 48 6059 rfl rfl (Nat.le_of_ble_eq_true rfl) (Nat.le_of_ble_eq_true rfl) rfl rfl rfl 64 (by simp only [List.length_append, List.length_cons, List.length_nil, hR9]) rfl ?_
  refine qr_dup 149 rfl rfl rfl ?_
  refine qr_aload_n 150 rfl rfl rfl ?_
  refine qr_get 153 rfl rfl rfl (by decide) rfl ?_
  refine qr_call 156 53 10221 rfl rfl (Nat.le_of_ble_eq_true rfl) (Nat.le_of_ble_eq_true rfl) rfl rfl (si_Guests (a := 64) (u := .inr (0, [.ref 17, .ref 23, .ref 25, .ref 27, .ref 34, .ref 42, .ref 44, .ref 49, .ref 58, .null, .null, .null, .null, .null, .null, .int (qz 0)]) :: R9) (qo_len hR9 64 rfl)) ?_
  rintro _ _ ⟨rfl, rfl⟩
  simp only [Option.toList, List.drop, List.nil_append]
  refine qo_put [.ref 17, .ref 23, .ref 25, .ref 27, .ref 34, .ref 42, .ref 44, .ref 49, .ref 58, .ref 64, .null, .null, .null, .null, .null, .int (qz 0)] 159 hR9 rfl (m2 := 6) (m3 := 53) rfl rfl (Nat.le_of_ble_eq_true rfl) (Nat.le_of_ble_eq_true rfl) (Or.inr ⟨by decide, rfl⟩) (qr_fitR (Or.inl ⟨_, rfl⟩) _) rfl rfl (fun R10 hE10 hR10 => ?_)
  refine qr_aload_n 160 rfl rfl rfl ?_
  refine qr_new ((.inr (0, [.ref 17, .ref 23, .ref 25, .ref 27, .ref 34, .ref 42, .ref 44, .ref 49, .ref 58, .ref 64, .null, .null, .null, .null, .null, .int (qz 0)]) :: R10) ++ [.inr (10, [.null, .null, .int (qz 0), .long (ql 0), .null, .int (qz 0), .long (ql 0)])]) 163 54 10228 rfl rfl (Nat.le_of_ble_eq_true rfl) (Nat.le_of_ble_eq_true rfl) rfl rfl rfl 70 (by simp only [List.length_append, List.length_cons, List.length_nil, hR10]) rfl ?_
  refine qr_dup 164 rfl rfl rfl ?_
  refine qr_aload_n 165 rfl rfl rfl ?_
  refine qr_get 168 rfl rfl rfl (by decide) rfl ?_
  refine qr_call 171 56 10319 rfl rfl (Nat.le_of_ble_eq_true rfl) (Nat.le_of_ble_eq_true rfl) rfl rfl (si_Telling (a := 70) (u := .inr (0, [.ref 17, .ref 23, .ref 25, .ref 27, .ref 34, .ref 42, .ref 44, .ref 49, .ref 58, .ref 64, .null, .null, .null, .null, .null, .int (qz 0)]) :: R10) (qo_len hR10 70 rfl)) ?_
  rintro _ _ ⟨rfl, rfl⟩
  simp only [Option.toList, List.drop, List.nil_append]
  refine qo_put [.ref 17, .ref 23, .ref 25, .ref 27, .ref 34, .ref 42, .ref 44, .ref 49, .ref 58, .ref 64, .ref 70, .null, .null, .null, .null, .int (qz 0)] 174 hR10 rfl (m2 := 3) (m3 := 56) rfl rfl (Nat.le_of_ble_eq_true rfl) (Nat.le_of_ble_eq_true rfl) (Or.inr ⟨by decide, rfl⟩) (qr_fitR (Or.inl ⟨_, rfl⟩) _) rfl rfl (fun R11 hE11 hR11 => ?_)
  refine qr_aload_n 175 rfl rfl rfl ?_
  refine qr_new ((.inr (0, [.ref 17, .ref 23, .ref 25, .ref 27, .ref 34, .ref 42, .ref 44, .ref 49, .ref 58, .ref 64, .ref 70, .null, .null, .null, .null, .int (qz 0)]) :: R11) ++ [.inr (10, [.null, .null, .int (qz 0), .long (ql 0), .null, .int (qz 0), .long (ql 0)])]) 178 57 10326 rfl rfl (Nat.le_of_ble_eq_true rfl) (Nat.le_of_ble_eq_true rfl) rfl rfl rfl 73 (by simp only [List.length_append, List.length_cons, List.length_nil, hR11]) rfl ?_
  refine qr_dup 179 rfl rfl rfl ?_
  refine qr_aload_n 180 rfl rfl rfl ?_
  refine qr_get 183 rfl rfl rfl (by decide) rfl ?_
  refine qr_call 186 59 10417 rfl rfl (Nat.le_of_ble_eq_true rfl) (Nat.le_of_ble_eq_true rfl) rfl rfl (si_Telling (a := 73) (u := .inr (0, [.ref 17, .ref 23, .ref 25, .ref 27, .ref 34, .ref 42, .ref 44, .ref 49, .ref 58, .ref 64, .ref 70, .null, .null, .null, .null, .int (qz 0)]) :: R11) (qo_len hR11 73 rfl)) ?_
  rintro _ _ ⟨rfl, rfl⟩
  simp only [Option.toList, List.drop, List.nil_append]
  refine qo_put [.ref 17, .ref 23, .ref 25, .ref 27, .ref 34, .ref 42, .ref 44, .ref 49, .ref 58, .ref 64, .ref 70, .ref 73, .null, .null, .null, .int (qz 0)] 189 hR11 rfl (m2 := 3) (m3 := 59) rfl rfl (Nat.le_of_ble_eq_true rfl) (Nat.le_of_ble_eq_true rfl) (Or.inr ⟨by decide, rfl⟩) (qr_fitR (Or.inl ⟨_, rfl⟩) _) rfl rfl (fun R12 hE12 hR12 => ?_)
  refine qr_aload_n 190 rfl rfl rfl ?_
  refine qr_new ((.inr (0, [.ref 17, .ref 23, .ref 25, .ref 27, .ref 34, .ref 42, .ref 44, .ref 49, .ref 58, .ref 64, .ref 70, .ref 73, .null, .null, .null, .int (qz 0)]) :: R12) ++ [.inr (11, [.null, .null, .null, .null, .null, .null, .null, .int (qz 0), .int (qz 0)])]) 193 60 10426 rfl rfl (Nat.le_of_ble_eq_true rfl) (Nat.le_of_ble_eq_true rfl) rfl rfl rfl 76 (by simp only [List.length_append, List.length_cons, List.length_nil, hR12]) rfl ?_
  refine qr_dup 194 rfl rfl rfl ?_
  refine qr_aload_n 195 rfl rfl rfl ?_
  refine qr_get 198 rfl rfl rfl (by decide) rfl ?_
  refine qr_aload_n 199 rfl rfl rfl ?_
  refine qr_get 202 rfl rfl rfl (by decide) rfl ?_
  refine qr_aload_n 203 rfl rfl rfl ?_
  refine qr_get 206 rfl rfl rfl (by decide) rfl ?_
  refine qr_call 209 64 10586 rfl rfl (Nat.le_of_ble_eq_true rfl) (Nat.le_of_ble_eq_true rfl) rfl rfl (si_History (a := 76) (u := .inr (0, [.ref 17, .ref 23, .ref 25, .ref 27, .ref 34, .ref 42, .ref 44, .ref 49, .ref 58, .ref 64, .ref 70, .ref 73, .null, .null, .null, .int (qz 0)]) :: R12) (qo_len hR12 76 rfl)) ?_
  rintro _ _ ⟨rfl, rfl⟩
  simp only [Option.toList, List.drop, List.nil_append]
  refine qo_put [.ref 17, .ref 23, .ref 25, .ref 27, .ref 34, .ref 42, .ref 44, .ref 49, .ref 58, .ref 64, .ref 70, .ref 73, .ref 76, .null, .null, .int (qz 0)] 212 hR12 rfl (m2 := 5) (m3 := 64) rfl rfl (Nat.le_of_ble_eq_true rfl) (Nat.le_of_ble_eq_true rfl) (Or.inr ⟨by decide, rfl⟩) (qr_fitR (Or.inl ⟨_, rfl⟩) _) rfl rfl (fun R13 hE13 hR13 => ?_)
  refine qr_aload_n 213 rfl rfl rfl ?_
  refine qr_bipush 215 rfl (by decide) rfl ?_
  refine qr_newI (.inr (0, [.ref 17, .ref 23, .ref 25, .ref 27, .ref 34, .ref 42, .ref 44, .ref 49, .ref 58, .ref 64, .ref 70, .ref 73, .ref 76, .null, .null, .int (qz 0)]) :: R13 ++ [.inl (.int, 120, .inl (qzf (fun _ => 0)))]) 217 65 10706 rfl (by decide) (Nat.le_of_ble_eq_true rfl) (Nat.le_of_ble_eq_true rfl) rfl rfl rfl 81 (by simp only [List.length_cons, hR13]) rfl ?_
  refine qo_put [.ref 17, .ref 23, .ref 25, .ref 27, .ref 34, .ref 42, .ref 44, .ref 49, .ref 58, .ref 64, .ref 70, .ref 73, .ref 76, .ref 81, .null, .int (qz 0)] 220 hR13 rfl (m2 := 1) (m3 := 65) rfl rfl (Nat.le_of_ble_eq_true rfl) (Nat.le_of_ble_eq_true rfl) (Or.inr ⟨by decide, rfl⟩) (qr_fitR (Or.inr ⟨_, rfl⟩) _) rfl rfl (fun R14 hE14 hR14 => ?_)
  refine qr_aload_n 221 rfl rfl rfl ?_
  refine qr_new ((.inr (0, [.ref 17, .ref 23, .ref 25, .ref 27, .ref 34, .ref 42, .ref 44, .ref 49, .ref 58, .ref 64, .ref 70, .ref 73, .ref 76, .ref 81, .null, .int (qz 0)]) :: R14) ++ [.inr (7, [.null, .null, .null, .int (qz 0), .int (qz 0), .int (qz 0), .int (qz 0), .int (qz 0)])]) 224 66 10714 rfl rfl (Nat.le_of_ble_eq_true rfl) (Nat.le_of_ble_eq_true rfl) rfl rfl rfl 82 (by simp only [List.length_append, List.length_cons, List.length_nil, hR14]) rfl ?_
  refine qr_dup 225 rfl rfl rfl ?_
  refine qr_ldcs 227 rfl rfl ?_
  refine qr_call 230 69 11076 rfl rfl (Nat.le_of_ble_eq_true rfl) (Nat.le_of_ble_eq_true rfl) rfl rfl (sp_cinit6 (a := 82) (u := .inr (0, [.ref 17, .ref 23, .ref 25, .ref 27, .ref 34, .ref 42, .ref 44, .ref 49, .ref 58, .ref 64, .ref 70, .ref 73, .ref 76, .ref 81, .null, .int (qz 0)]) :: R14) (by simp only [List.length_append, List.length_cons, List.length_nil, hR14])) ?_
  rintro _ _ ⟨rfl, at6, sz6, nm6, sk6, t6, cd6, rfl, hb6, ht6⟩
  simp only [Option.toList, List.nil_append]
  refine qo_put [.ref 17, .ref 23, .ref 25, .ref 27, .ref 34, .ref 42, .ref 44, .ref 49, .ref 58, .ref 64, .ref 70, .ref 73, .ref 76, .ref 81, .ref 82, .int (qz 0)] 233 hR14 rfl (m2 := 4) (m3 := 69) rfl rfl (Nat.le_of_ble_eq_true rfl) (Nat.le_of_ble_eq_true rfl) (Or.inl rfl) (qr_fitR (Or.inl ⟨_, rfl⟩) _) rfl rfl (fun R15 hE15 hR15 => ?_)
  refine qr_aload_n 234 rfl rfl rfl ?_
  refine qr_iconst 235 rfl rfl ?_
  refine qo_put0 [.ref 17, .ref 23, .ref 25, .ref 27, .ref 34, .ref 42, .ref 44, .ref 49, .ref 58, .ref 64, .ref 70, .ref 73, .ref 76, .ref 81, .ref 82, .int (qz 0)] 238 rfl (Nat.le_of_ble_eq_true rfl) (Nat.le_of_ble_eq_true rfl) (Or.inl rfl) (qr_fitI rfl _) rfl rfl ?_
  refine qr_retV rfl rfl (Nat.le_of_ble_eq_true rfl) (Nat.le_of_ble_eq_true rfl) ?_
  refine ⟨rfl, fun i => if i = 0 then qo_c 4 at3 sz3 nm3 sk3 else if i = 1 then qo_c 5 at5 sz5 nm5 sk5 else qo_c 1 at6 sz6 nm6 sk6, fun i => if i = 24 then g23 else if i = 26 then g25 else if i = 51 then qT3 else if i = 52 then cd3 else if i = 55 then qT5 else if i = 56 then cd5 else if i = 83 then t6 else cd6, ?_, ?_, ⟨v3, hq3⟩, ⟨v5, hq5⟩⟩
  · rw [hE15, hE14, hE13, hE12, hE11, hE10, hE9, hE8, hE7, hE6, hE5, hE4, hE3, hE2, hE1, ← hE0]
    rfl
  · refine ⟨⟨rfl, rfl, rfl⟩, ?_, ?_, ?_⟩
    · intro i hi
      have hi3 : i = 0 ∨ i = 1 ∨ i = 2 := by omega
      rcases hi3 with rfl | rfl | rfl
      · exact ⟨⟨hb3.1, by show at3 ≤ 5; omega⟩, ⟨hb3.2.2.1, hb3.2.2.2.1⟩, ⟨hb3.2.2.2.2.1, hb3.2.2.2.2.2.1⟩, hb3.2.2.2.2.2.2⟩
      · exact ⟨⟨hb5.1, by show at5 ≤ 5; omega⟩, ⟨hb5.2.2.1, hb5.2.2.2.1⟩, ⟨hb5.2.2.2.2.1, hb5.2.2.2.2.2.1⟩, hb5.2.2.2.2.2.2⟩
      · exact ⟨⟨hb6.1, by show at6 ≤ 5; omega⟩, ⟨hb6.2.2.1, hb6.2.2.2.1⟩, ⟨hb6.2.2.2.2.1, hb6.2.2.2.2.2.1⟩, hb6.2.2.2.2.2.2⟩
    · rintro i (rfl | rfl)
      · exact hg23
      · exact hg25
    · rintro i (rfl | rfl | rfl)
      · exact qT3_r
      · exact qT5_r
      · exact ht6

theorem qlv_o {T : Nat → Int} {n : Int} {one : Int → qtx_3} {m : Nat} {a : Int} {p : qtx_3} (h : qtx_lv T n one m a = p) (hn : ¬ (p.2.2 = 0 ∧ qtx_lo (qtx_c T n p.2.1) = 4 - (m : Int))) : qtx_lv T n one (m + 1) a = p := by
  show qtx_lp T n (qtx_lv T n one m) (4 - (m : Int)) (if m = 2 then 1 else 120) (qtx_lv T n one m a) = p
  rw [h]
  exact qtx_lp_st hn
theorem qlv_1 {T : Nat → Int} {n : Int} {one : Int → qtx_3} {m : Nat} {a : Int} {p q r : qtx_3} (h : qtx_lv T n one m a = p) (hy : p.2.2 = 0 ∧ qtx_lo (qtx_c T n p.2.1) = 4 - (m : Int)) (h2 : qtx_lv T n one m (p.2.1 + 1) = q) (h3 : qtx_cm (qtx_c T n p.2.1) p q = r) (hn : ¬ (r.2.2 = 0 ∧ qtx_lo (qtx_c T n r.2.1) = 4 - (m : Int))) : qtx_lv T n one (m + 1) a = r := by
  show qtx_lp T n (qtx_lv T n one m) (4 - (m : Int)) (if m = 2 then 1 else 120) (qtx_lv T n one m a) = r
  obtain ⟨k, hk⟩ : ∃ k : Nat, (if m = 2 then 1 else 120 : Nat) = k + 1 := by
    split
    · exact ⟨0, rfl⟩
    · exact ⟨119, rfl⟩
  rw [h, hk, qtx_lp_go hy, h2, h3]
  exact qtx_lp_st hn
theorem qlv_5 {T : Nat → Int} {n : Int} {one : Int → qtx_3} {a : Int} {p : qtx_3} (k : Nat) (h : one a = p) (hn : ¬ p.2.2 = 0 ∨ qtx_lo (qtx_c T n p.2.1) < 5 - (k : Int)) (hk : k ≤ 5) : ∀ j : Nat, j ≤ k → qtx_lv T n one j a = p := by
  intro j
  induction j with
  | zero => intro _; exact h
  | succ j ih =>
    intro hj
    exact qlv_o (ih (by omega)) (by omega)
theorem qtW_1 {T : Nat → Int} {n : Int} {N : Nat → Int} {v : Int} (h : qtx_E T n N 6 0 = (v, n, 0)) (hc : qtx_c T n n = -1) : qtx_W T n N = (v, n, 0) := by
  have e : qtx_ln T n (qtx_E T n N 6) 0 = (1, v, n, 0) := by
    unfold qtx_ln
    rw [h]
    exact if_neg (fun z => absurd (hc.symm.trans z.2) (by decide))
  show qtx_pg T n (qtx_E T n N 6) (120 + 1) 0 0 0 = (v, n, 0)
  rw [qtx_pg_st (by rw [e]; exact fun z => absurd (hc.symm.trans z.2) (by decide)), e]
  show (qtx_ge 0 1 0 v, n, if (0 : Int) = 0 ∧ n ≤ n then (0 : Int) else 1) = (v, n, 0)
  rw [if_pos ⟨rfl, Int.le_refl n⟩]
  rfl

theorem qtW_3 (N : Nat → Int) : qtx_W qT3 4 N = (qtx_ap 38 (N 0) (qtx_ng 33 (N 2)), 4, 0) := by
  obtain ⟨h0, h1, h2, h3⟩ := qT3_v
  have c0 : qtx_c qT3 4 0 = 102 := (if_pos (by decide)).trans h0
  have c1 : qtx_c qT3 4 1 = 38 := (if_pos (by decide)).trans h1
  have c2 : qtx_c qT3 4 2 = 33 := (if_pos (by decide)).trans h2
  have c3 : qtx_c qT3 4 3 = 99 := (if_pos (by decide)).trans h3
  have c4 : qtx_c qT3 4 4 = -1 := if_neg (by decide)
  have o0_6 : qtx_on qT3 4 N 6 0 = (N 0, 1, 0) := by
    rw [qtx_on_o (Or.inr (by rw [c0]; decide)), qtx_oo_n (by rw [c0]; decide), c0]
    rfl
  have o3_5 : qtx_on qT3 4 N 5 3 = (N 2, 4, 0) := by
    rw [qtx_on_o (Or.inr (by rw [c3]; decide)), qtx_oo_n (by rw [c3]; decide), c3]
    rfl
  have u2 : qtx_on qT3 4 N 6 2 = (qtx_ng 33 (N 2), 4, 0) := by
    rw [qtx_on_u (c := 33) (by decide) c2 (Or.inl rfl), show (2 : Int) + 1 = 3 by decide, o3_5]
    rfl
  have l0 : qtx_lv qT3 4 (fun b => qtx_on qT3 4 N 6 b) 3 0 = (N 0, 1, 0) := qlv_5 3 o0_6 (Or.inr (by show qtx_lo (qtx_c qT3 4 1) < _; rw [c1]; decide)) (by decide) 3 (by decide)
  have l2 : qtx_lv qT3 4 (fun b => qtx_on qT3 4 N 6 b) 3 2 = (qtx_ng 33 (N 2), 4, 0) := qlv_5 3 u2 (Or.inr (by show qtx_lo (qtx_c qT3 4 4) < _; rw [c4]; decide)) (by decide) 3 (by decide)
  have m0 : qtx_lv qT3 4 (fun b => qtx_on qT3 4 N 6 b) 4 0 = (qtx_ap 38 (N 0) (qtx_ng 33 (N 2)), 4, 0) := qlv_1 l0 ⟨rfl, by show qtx_lo (qtx_c qT3 4 1) = _; rw [c1]; decide⟩ l2 (by show qtx_cm (qtx_c qT3 4 1) _ _ = _; rw [c1]; rfl) (fun z => absurd (show qtx_lo (qtx_c qT3 4 4) = _ from z.2) (by rw [c4]; decide))
  exact qtW_1 (qlv_o m0 (fun z => absurd (show qtx_lo (qtx_c qT3 4 4) = _ from z.2) (by rw [c4]; decide))) c4
theorem qtW_5 (N : Nat → Int) : qtx_W qT5 5 N = (qtx_ap 38 (qtx_ap 60 (N 8) 2) (N 3), 5, 0) := by
  obtain ⟨h0, h1, h2, h3, h4⟩ := qT5_v
  have c0 : qtx_c qT5 5 0 = 100 := (if_pos (by decide)).trans h0
  have c1 : qtx_c qT5 5 1 = 60 := (if_pos (by decide)).trans h1
  have c2 : qtx_c qT5 5 2 = 50 := (if_pos (by decide)).trans h2
  have c3 : qtx_c qT5 5 3 = 38 := (if_pos (by decide)).trans h3
  have c4 : qtx_c qT5 5 4 = 119 := (if_pos (by decide)).trans h4
  have c5 : qtx_c qT5 5 5 = -1 := if_neg (by decide)
  have o0_6 : qtx_on qT5 5 N 6 0 = (N 8, 1, 0) := by
    rw [qtx_on_o (Or.inr (by rw [c0]; decide)), qtx_oo_n (by rw [c0]; decide), c0]
    rfl
  have o4_6 : qtx_on qT5 5 N 6 4 = (N 3, 5, 0) := by
    rw [qtx_on_o (Or.inr (by rw [c4]; decide)), qtx_oo_n (by rw [c4]; decide), c4]
    rfl
  have u2 : qtx_on qT5 5 N 6 2 = (2, 3, 0) := by
    rw [qtx_on_o (Or.inr (by rw [c2]; decide)), qtx_oo_d (by rw [c2]; decide), qtx_num_go (by rw [c2]; decide), c2, show (2 : Int) + 1 = 3 by decide, qtx_num_st (by rw [c3]; decide)]
    rfl
  have l0 : qtx_lv qT5 5 (fun b => qtx_on qT5 5 N 6 b) 2 0 = (N 8, 1, 0) := qlv_5 2 o0_6 (Or.inr (by show qtx_lo (qtx_c qT5 5 1) < _; rw [c1]; decide)) (by decide) 2 (by decide)
  have l2 : qtx_lv qT5 5 (fun b => qtx_on qT5 5 N 6 b) 2 2 = (2, 3, 0) := qlv_5 2 u2 (Or.inr (by show qtx_lo (qtx_c qT5 5 3) < _; rw [c3]; decide)) (by decide) 2 (by decide)
  have m0 : qtx_lv qT5 5 (fun b => qtx_on qT5 5 N 6 b) 3 0 = (qtx_ap 60 (N 8) 2, 3, 0) := qlv_1 l0 ⟨rfl, by show qtx_lo (qtx_c qT5 5 1) = _; rw [c1]; decide⟩ l2 (by show qtx_cm (qtx_c qT5 5 1) _ _ = _; rw [c1]; rfl) (fun z => absurd (show qtx_lo (qtx_c qT5 5 3) = _ from z.2) (by rw [c3]; decide))
  have l4 : qtx_lv qT5 5 (fun b => qtx_on qT5 5 N 6 b) 3 4 = (N 3, 5, 0) := qlv_5 3 o4_6 (Or.inr (by show qtx_lo (qtx_c qT5 5 5) < _; rw [c5]; decide)) (by decide) 3 (by decide)
  have n0 : qtx_lv qT5 5 (fun b => qtx_on qT5 5 N 6 b) 4 0 = (qtx_ap 38 (qtx_ap 60 (N 8) 2) (N 3), 5, 0) := qlv_1 m0 ⟨rfl, by show qtx_lo (qtx_c qT5 5 3) = _; rw [c3]; decide⟩ l4 (by show qtx_cm (qtx_c qT5 5 3) _ _ = _; rw [c3]; rfl) (fun z => absurd (show qtx_lo (qtx_c qT5 5 5) = _ from z.2) (by rw [c5]; decide))
  exact qtW_1 (qlv_o n0 (fun z => absurd (show qtx_lo (qtx_c qT5 5 5) = _ from z.2) (by rw [c5]; decide))) c5
theorem qAg_3 : qAg (fun N => (qtx_W qT3 4 N).1) (qdf 0) := fun N h0 h3 => by
  have e : (qtx_W qT3 4 N).1 = qtx_ap 38 (N 0) (qtx_ng 33 (N 2)) := by rw [qtW_3 N]
  show (qtx_W qT3 4 N).1 = (if (0 : Int) = 0 then (if N 0 = 1 ∧ N 2 = 0 then 1 else 0) else (if N 8 < 2 ∧ N 3 = 1 then 1 else 0))
  have e2 : qtx_ap 38 (N 0) (qtx_ng 33 (N 2)) = if N 0 = 0 ∨ qtx_ng 33 (N 2) = 0 then 0 else 1 := rfl
  have e3 : qtx_ng 33 (N 2) = if N 2 = 0 then 1 else 0 := rfl
  rw [e, e2, e3, if_pos rfl]
  by_cases c : N 2 = 0
  · rw [if_pos c]
    by_cases d : N 0 = 0
    · rw [if_pos (Or.inl d), if_neg (by omega)]
    · rw [if_neg (by omega), if_pos (by omega)]
  · rw [if_neg c, if_pos (Or.inr rfl), if_neg (by omega)]
theorem qAg_5 : qAg (fun N => (qtx_W qT5 5 N).1) (qdf 1) := fun N h0 h3 => by
  have e : (qtx_W qT5 5 N).1 = qtx_ap 38 (qtx_ap 60 (N 8) 2) (N 3) := by rw [qtW_5 N]
  show (qtx_W qT5 5 N).1 = (if (1 : Int) = 0 then (if N 0 = 1 ∧ N 2 = 0 then 1 else 0) else (if N 8 < 2 ∧ N 3 = 1 then 1 else 0))
  have e2 : qtx_ap 38 (qtx_ap 60 (N 8) 2) (N 3) = if qtx_ap 60 (N 8) 2 = 0 ∨ N 3 = 0 then 0 else 1 := rfl
  have e3 : qtx_ap 60 (N 8) 2 = if N 8 < 2 then 1 else 0 := rfl
  rw [e, e2, e3, if_neg (show ¬ (1 : Int) = 0 by decide)]
  by_cases c : N 8 < 2
  · rw [if_pos c]
    by_cases d : N 3 = 0
    · rw [if_pos (Or.inr d), if_neg (by omega)]
    · rw [if_neg (by omega), if_pos (by omega)]
  · rw [if_neg c, if_pos (Or.inl rfl), if_neg (by omega)]
theorem qdf_9 (u : Int) : ∀ N N' : Nat → Int, (∀ k : Nat, k < 9 → N k = N' k) → qdf u N = qdf u N' := fun N N' h => by
  unfold qdf
  rw [h 0 (by decide), h 2 (by decide), h 8 (by decide), h 3 (by decide)]
theorem qRC_h {cd : Nat → Int} {ln v sz nm : Int} {T : Nat → Int} (hz : ∀ N, (qtx_W T ln N).2.2 = 0) (h : qRt ln T v sz nm cd) : (∃ gi : (Nat → Int) → Int, qtx_Y (fun j => (qz (cd j)).toInt) sz gi (fun N => (qtx_W T ln N).1)) ∧ qDep nm (fun N => (qtx_W T ln N).1) ∧ qCr (fun j => (qz (cd j)).toInt) 0 sz := by
  rcases h with h | h
  · have h2 := qRt_cg (T' := T) (cd' := fun j => (qz (cd j)).toInt) (fun _ _ => rfl) (fun k q1 q2 => by
      have := h.2.2.2.2 k q1 q2
      exact qz_ti (by omega)) (Or.inl h : qRt ln T v sz nm cd)
    rcases h2 with h2 | h2
    · exact ⟨h2.2.2.1, h2.2.2.2.1, h2.2.2.2.2⟩
    · exact False.elim (by have := h.1; have := h2.1; omega)
  · exact absurd ((h.2 (fun _ => 0)).2.symm.trans (hz (fun _ => 0))) (by decide)
theorem qRC_0 {s g : Nat → Nat → Int} (h : qo_cu s g) : qRC (qJ_s s) (qJ_r g) qo_k 82 := by
  obtain ⟨⟨v3, h3⟩, ⟨v5, h5⟩⟩ := h
  have a3 := qRC_h (fun N => by rw [qtW_3 N]) h3
  have a5 := qRC_h (fun N => by rw [qtW_5 N]) h5
  refine ⟨⟨50, 54, rfl, rfl, by decide, by decide, by decide⟩, ⟨_, _, ?_, ⟨fun N => ⟨fun z => absurd (show (0 : Int) ≤ -1 from z) (by decide), fun _ => rfl⟩, qdf_9 0⟩, qAg_3⟩, ⟨_, _, ?_, ⟨fun N => ⟨fun z => absurd (show (0 : Int) ≤ -1 from z) (by decide), fun _ => rfl⟩, qdf_9 1⟩, qAg_5⟩⟩
  · intro c hc _
    have e : c = 50 := (Option.some.inj (show some 50 = some c from hc)).symm
    rw [e]
    obtain ⟨⟨gi, y⟩, d, q⟩ := a3
    exact ⟨gi, y, d, q⟩
  · intro c hc _
    have e : c = 54 := (Option.some.inj (show some 54 = some c from hc)).symm
    rw [e]
    obtain ⟨⟨gi, y⟩, d, q⟩ := a5
    exact ⟨gi, y, d, q⟩
end
section
/-! custom: what hangs behind it -/
theorem qFr_up {S S' : List (Nat × Nat)} {R R' : List Nat} {σ α σ' α' : Nat → Nat → Int} (hs : S.all (fun x => S'.contains x) = true) (hr : R.all (fun x => R'.contains x) = true) (h : qFr S R σ α σ' α') : qFr S' R' σ α σ' α' :=
  ⟨fun a k hn => h.1 a k (fun hm => hn (List.contains_iff_mem.mp (List.all_eq_true.mp hs (a, k) hm))), fun a hn => h.2 a (fun hm => hn (List.contains_iff_mem.mp (List.all_eq_true.mp hr a hm)))⟩
theorem qDK_sw {κ : Nat → Option Nat} {ρ c : Nat} {u : Nat} (hu : u = 0 ∨ u = 1) (hc : κ u = some c) (h : qDK κ ρ) : qDK (va_up κ u (some ρ)) c := by
  obtain ⟨a, b, h0, h1, h2, h3, h4⟩ := h
  rcases hu with rfl | rfl
  · have e : a = c := Option.some.inj (h0.symm.trans hc)
    exact ⟨ρ, b, if_pos rfl, (if_neg (by decide)).trans h1, by omega, by omega, by omega⟩
  · have e : b = c := Option.some.inj (h1.symm.trans hc)
    exact ⟨a, ρ, (if_neg (by decide)).trans h0, if_pos rfl, by omega, by omega, by omega⟩
theorem qDK_0 {κ : Nat → Option Nat} {ρ : Nat} (h : qDK κ ρ) : ¬ κ 0 = some ρ := fun z => by
  obtain ⟨a, b, h0, h1, h2, h3, h4⟩ := h
  exact h3 (Option.some.inj (h0.symm.trans z))
theorem qDK_1 {κ : Nat → Option Nat} {ρ : Nat} (h : qDK κ ρ) : ¬ κ 1 = some ρ := fun z => by
  obtain ⟨a, b, h0, h1, h2, h3, h4⟩ := h
  exact h4 (Option.some.inj (h1.symm.trans z))
theorem qPW_k {σ α : Nat → Nat → Int} {κ κ' : Nat → Option Nat} {u : Nat} {f : (Nat → Int) → Int} (e : κ' u = κ u) (h : qPW σ α κ u f) : qPW σ α κ' u f := fun c hc hq => h c (e.symm.trans hc) hq
theorem qPW_n {σ α : Nat → Nat → Int} {κ : Nat → Option Nat} {u a : Nat} {f : (Nat → Int) → Int} (hk : κ u = some a) (hY : ∃ gi : (Nat → Int) → Int, qtx_Y (α (a + 2)) (σ a 5) gi f) (hD : qDep (σ a 6) f) (hC : qCr (α (a + 2)) 0 (σ a 5)) : qPW σ α κ u f := fun c hc _ => by
  have e : c = a := Option.some.inj (hc.symm.trans hk)
  rw [e]
  obtain ⟨gi, hY⟩ := hY
  exact ⟨gi, hY, hD, hC⟩
def qCW (σ α : Nat → Nat → Int) (κ : Nat → Option Nat) (ρ : Nat) (σ' α' : Nat → Nat → Int) (κ' : Nat → Option Nat) (ρ' : Nat) (x v : Int) (W : (Nat → Int) → Int) : Prop := qDK κ ρ → qDK κ' ρ' ∧ ∀ f0 f1 : (Nat → Int) → Int, qPW σ α κ (0 : Int).toNat f0 → qPW σ α κ (1 : Int).toNat f1 → (¬ v = 1 → qPW σ' α' κ' (0 : Int).toNat f0 ∧ qPW σ' α' κ' (1 : Int).toNat f1) ∧ (v = 1 → (x = 0 → qPW σ' α' κ' (0 : Int).toNat W ∧ qPW σ' α' κ' (1 : Int).toNat f1) ∧ (x = 1 → qPW σ' α' κ' (0 : Int).toNat f0 ∧ qPW σ' α' κ' (1 : Int).toNat W))
theorem qCW_id {σ α : Nat → Nat → Int} {κ : Nat → Option Nat} {ρ : Nat} {x v : Int} {W : (Nat → Int) → Int} (hv : ¬ v = 1) : qCW σ α κ ρ σ α κ ρ x v W := fun hd => ⟨hd, fun _ _ h0 h1 => ⟨fun _ => ⟨h0, h1⟩, fun e => absurd e hv⟩⟩
theorem qPW_o50 {σ α σ' α' : Nat → Nat → Int} {κ : Nat → Option Nat} {u : Nat} {f : (Nat → Int) → Int} (hG : qFr [(16, 15), (50, 3), (50, 4), (50, 5), (50, 6), (50, 7)] [51, 52] σ α σ' α') (hn : ¬ κ u = some 50) (h : qPW σ α κ u f) : qPW σ' α' κ u f := by
  intro c hc hq
  have h1 := h c hc hq
  rcases hq with rfl | rfl | rfl
  · exact absurd hc hn
  · rw [hG.2 (54 + 2) (by decide), hG.1 54 5 (by decide), hG.1 54 6 (by decide)]
    exact h1
  · rw [hG.2 (82 + 2) (by decide), hG.1 82 5 (by decide), hG.1 82 6 (by decide)]
    exact h1
theorem qCW_f50 {σ α σ' α' : Nat → Nat → Int} {κ : Nat → Option Nat} {x v : Int} {W : (Nat → Int) → Int} (hG : qFr [(16, 15), (50, 3), (50, 4), (50, 5), (50, 6), (50, 7)] [51, 52] σ α σ' α') (hv : ¬ v = 1) : qCW σ α κ 50 σ' α' κ 50 x v W := fun hd => ⟨hd, fun _ _ h0 h1 => ⟨fun _ => ⟨qPW_o50 hG (qDK_0 hd) h0, qPW_o50 hG (qDK_1 hd) h1⟩, fun e => absurd e hv⟩⟩
theorem qCW_s50 {σ α σ' α' : Nat → Nat → Int} {κ : Nat → Option Nat} {c : Nat} {x v : Int} {W : (Nat → Int) → Int} (hG : qFr [(16, 15), (50, 3), (50, 4), (50, 5), (50, 6), (50, 7)] [51, 52] σ α σ' α') (hx : x = 0 ∨ x = 1) (hc : κ x.toNat = some c) (hv : v = 1) (hY : ∃ gi : (Nat → Int) → Int, qtx_Y (α' 52) (σ' 50 5) gi W) (hD : qDep (σ' 50 6) W) (hC : qCr (α' 52) 0 (σ' 50 5)) : qCW σ α κ 50 σ' α' (va_up κ x.toNat (some 50)) c x v W := fun hd => by
  rcases hx with rfl | rfl
  · refine ⟨qDK_sw (u := 0) (Or.inl rfl) hc hd, fun f0 f1 h0 h1 => ⟨fun e => absurd hv e, fun _ => ⟨fun _ => ⟨qPW_n (a := 50) (if_pos rfl) hY hD hC, qPW_k (if_neg (by decide)) (qPW_o50 hG (qDK_1 hd) h1)⟩, fun e => absurd e (by decide)⟩⟩⟩
  · refine ⟨qDK_sw (u := 1) (Or.inr rfl) hc hd, fun f0 f1 h0 h1 => ⟨fun e => absurd hv e, fun _ => ⟨fun e => absurd e (by decide), fun _ => ⟨qPW_k (if_neg (by decide)) (qPW_o50 hG (qDK_0 hd) h0), qPW_n (a := 50) (if_pos rfl) hY hD hC⟩⟩⟩⟩
theorem qPW_o54 {σ α σ' α' : Nat → Nat → Int} {κ : Nat → Option Nat} {u : Nat} {f : (Nat → Int) → Int} (hG : qFr [(16, 15), (54, 3), (54, 4), (54, 5), (54, 6), (54, 7)] [55, 56] σ α σ' α') (hn : ¬ κ u = some 54) (h : qPW σ α κ u f) : qPW σ' α' κ u f := by
  intro c hc hq
  have h1 := h c hc hq
  rcases hq with rfl | rfl | rfl
  · rw [hG.2 (50 + 2) (by decide), hG.1 50 5 (by decide), hG.1 50 6 (by decide)]
    exact h1
  · exact absurd hc hn
  · rw [hG.2 (82 + 2) (by decide), hG.1 82 5 (by decide), hG.1 82 6 (by decide)]
    exact h1
theorem qCW_f54 {σ α σ' α' : Nat → Nat → Int} {κ : Nat → Option Nat} {x v : Int} {W : (Nat → Int) → Int} (hG : qFr [(16, 15), (54, 3), (54, 4), (54, 5), (54, 6), (54, 7)] [55, 56] σ α σ' α') (hv : ¬ v = 1) : qCW σ α κ 54 σ' α' κ 54 x v W := fun hd => ⟨hd, fun _ _ h0 h1 => ⟨fun _ => ⟨qPW_o54 hG (qDK_0 hd) h0, qPW_o54 hG (qDK_1 hd) h1⟩, fun e => absurd e hv⟩⟩
theorem qCW_s54 {σ α σ' α' : Nat → Nat → Int} {κ : Nat → Option Nat} {c : Nat} {x v : Int} {W : (Nat → Int) → Int} (hG : qFr [(16, 15), (54, 3), (54, 4), (54, 5), (54, 6), (54, 7)] [55, 56] σ α σ' α') (hx : x = 0 ∨ x = 1) (hc : κ x.toNat = some c) (hv : v = 1) (hY : ∃ gi : (Nat → Int) → Int, qtx_Y (α' 56) (σ' 54 5) gi W) (hD : qDep (σ' 54 6) W) (hC : qCr (α' 56) 0 (σ' 54 5)) : qCW σ α κ 54 σ' α' (va_up κ x.toNat (some 54)) c x v W := fun hd => by
  rcases hx with rfl | rfl
  · refine ⟨qDK_sw (u := 0) (Or.inl rfl) hc hd, fun f0 f1 h0 h1 => ⟨fun e => absurd hv e, fun _ => ⟨fun _ => ⟨qPW_n (a := 54) (if_pos rfl) hY hD hC, qPW_k (if_neg (by decide)) (qPW_o54 hG (qDK_1 hd) h1)⟩, fun e => absurd e (by decide)⟩⟩⟩
  · refine ⟨qDK_sw (u := 1) (Or.inr rfl) hc hd, fun f0 f1 h0 h1 => ⟨fun e => absurd hv e, fun _ => ⟨fun e => absurd e (by decide), fun _ => ⟨qPW_k (if_neg (by decide)) (qPW_o54 hG (qDK_0 hd) h0), qPW_n (a := 54) (if_pos rfl) hY hD hC⟩⟩⟩⟩
theorem qPW_o82 {σ α σ' α' : Nat → Nat → Int} {κ : Nat → Option Nat} {u : Nat} {f : (Nat → Int) → Int} (hG : qFr [(16, 15), (82, 3), (82, 4), (82, 5), (82, 6), (82, 7)] [83, 84] σ α σ' α') (hn : ¬ κ u = some 82) (h : qPW σ α κ u f) : qPW σ' α' κ u f := by
  intro c hc hq
  have h1 := h c hc hq
  rcases hq with rfl | rfl | rfl
  · rw [hG.2 (50 + 2) (by decide), hG.1 50 5 (by decide), hG.1 50 6 (by decide)]
    exact h1
  · rw [hG.2 (54 + 2) (by decide), hG.1 54 5 (by decide), hG.1 54 6 (by decide)]
    exact h1
  · exact absurd hc hn
theorem qCW_f82 {σ α σ' α' : Nat → Nat → Int} {κ : Nat → Option Nat} {x v : Int} {W : (Nat → Int) → Int} (hG : qFr [(16, 15), (82, 3), (82, 4), (82, 5), (82, 6), (82, 7)] [83, 84] σ α σ' α') (hv : ¬ v = 1) : qCW σ α κ 82 σ' α' κ 82 x v W := fun hd => ⟨hd, fun _ _ h0 h1 => ⟨fun _ => ⟨qPW_o82 hG (qDK_0 hd) h0, qPW_o82 hG (qDK_1 hd) h1⟩, fun e => absurd e hv⟩⟩
theorem qCW_s82 {σ α σ' α' : Nat → Nat → Int} {κ : Nat → Option Nat} {c : Nat} {x v : Int} {W : (Nat → Int) → Int} (hG : qFr [(16, 15), (82, 3), (82, 4), (82, 5), (82, 6), (82, 7)] [83, 84] σ α σ' α') (hx : x = 0 ∨ x = 1) (hc : κ x.toNat = some c) (hv : v = 1) (hY : ∃ gi : (Nat → Int) → Int, qtx_Y (α' 84) (σ' 82 5) gi W) (hD : qDep (σ' 82 6) W) (hC : qCr (α' 84) 0 (σ' 82 5)) : qCW σ α κ 82 σ' α' (va_up κ x.toNat (some 82)) c x v W := fun hd => by
  rcases hx with rfl | rfl
  · refine ⟨qDK_sw (u := 0) (Or.inl rfl) hc hd, fun f0 f1 h0 h1 => ⟨fun e => absurd hv e, fun _ => ⟨fun _ => ⟨qPW_n (a := 82) (if_pos rfl) hY hD hC, qPW_k (if_neg (by decide)) (qPW_o82 hG (qDK_1 hd) h1)⟩, fun e => absurd e (by decide)⟩⟩⟩
  · refine ⟨qDK_sw (u := 1) (Or.inr rfl) hc hd, fun f0 f1 h0 h1 => ⟨fun e => absurd hv e, fun _ => ⟨fun e => absurd e (by decide), fun _ => ⟨qPW_k (if_neg (by decide)) (qPW_o82 hG (qDK_0 hd) h0), qPW_n (a := 82) (if_pos rfl) hY hD hC⟩⟩⟩⟩
/-! a text laid down -/
def qtp (f s : Nat → Int) (b : Int) : Nat → Nat → Int
  | 0 => f
  | k + 1 => qzu (qtp f s b k) (b + (k : Int)).toNat (s k)
theorem qtp_s {f s : Nat → Int} {b u val : Int} {ix : Nat} (hu : 0 ≤ u) (hi : ix = (b + u).toNat) (hv : val = s u.toNat) : qzu (qtp f s b u.toNat) ix val = qtp f s b (u + 1).toNat := by
  rw [show (u + 1).toNat = u.toNat + 1 by omega]
  show qzu (qtp f s b u.toNat) ix val = qzu (qtp f s b u.toNat) (b + ((u.toNat : Nat) : Int)).toNat (s u.toNat)
  rw [show ((u.toNat : Nat) : Int) = u by omega, hi, hv]
theorem qtp_out {f s : Nat → Int} {b : Int} {i : Nat} : ∀ k : Nat, (∀ j : Nat, j < k → ¬ i = (b + (j : Int)).toNat) → qtp f s b k i = f i
  | 0, _ => rfl
  | k + 1, h => (if_neg (h k (Nat.lt_succ_self k))).trans (qtp_out k (fun j hj => h j (Nat.lt_succ_of_lt hj)))
theorem qtp_in {f s : Nat → Int} {b : Int} (hb : 0 ≤ b) : ∀ (k j : Nat), j < k → qtp f s b k (b.toNat + j) = s j
  | 0, j, h => absurd h (Nat.not_lt_zero j)
  | k + 1, j, h => by
    show (if b.toNat + j = (b + (k : Int)).toNat then s k else qtp f s b k (b.toNat + j)) = s j
    by_cases c : j = k
    · rw [if_pos (by omega), c]
    · rw [if_neg (by omega)]
      exact qtp_in hb k j (by omega)

set_option maxHeartbeats 4000000 in
set_option maxRecDepth 20000 in
/-- OneRoof.custom -/
theorem sf_85_16w50 {L : Nat} {xs : Nat → Int} {vb : Bool} {d : Nat} {σ α : Nat → Nat → Int} {κ : Nat → Option Nat} {x1 : Int} (hI : qI σ α κ 50) (r1 : (-2147483648) ≤ x1 ∧ x1 ≤ 2147483647) (p0 : ∀ j : Nat, (j : Int) < σ 16 15 → 0 ≤ α 81 j ∧ α 81 j ≤ 255) : qm_T (qe L xs vb) (d + 58) 85 [.ref 16, .int (qz x1)] (qw σ α κ 50) (fun r w' => ∃ σ' α' κ' ρ', w' = qw σ' α' κ' ρ' ∧ qI σ' α' κ' ρ' ∧ qFr [(16, 15), (50, 3), (50, 4), (50, 5), (50, 6), (50, 7), (54, 3), (54, 4), (54, 5), (54, 6), (54, 7), (82, 3), (82, 4), (82, 5), (82, 6), (82, 7)] [51, 52, 55, 56, 83, 84] σ α σ' α' ∧ ∃ v : Int, r = some (.int (qz v)) ∧ (-2147483648 ≤ v ∧ v ≤ 2147483647) ∧ ((v = -1 ∧ ¬ (x1 = 0 ∨ x1 = 1) ∧ σ' 16 15 = σ 16 15) ∨ ((x1 = 0 ∨ x1 = 1) ∧ σ' 16 15 = 0 ∧ ((v = 1 ∧ ∀ N, (qtx_W (α 81) (σ 16 15) N).2.2 = 0) ∨ (v ≤ -100 ∧ ∀ N, v = -100 - (qtx_W (α 81) (σ 16 15) N).2.1 ∧ (qtx_W (α 81) (σ 16 15) N).2.2 = 1)))) ∧ qCW σ α κ 50 σ' α' κ' ρ' x1 v (fun N => (qtx_W (α 81) (σ 16 15) N).1)) := by
  refine qr_start (d := d + 57) qv_e85 (Nat.le_of_ble_eq_true rfl) ?_
  show qr_W (qe L xs vb) (d + 57) qx_e85 _ (0, [(0, .ref 16), (1, .int (qz x1))], [], _, 0, 0)
  have hF0 := qFr_rf [(16, 15), (50, 3), (50, 4), (50, 5), (50, 6), (50, 7)] [51, 52] σ α
  have hz16_15 : 0 ≤ σ 16 15 ∧ σ 16 15 ≤ 120 := hI.1 16 15
  refine qr_iload_n 1 rfl rfl rfl ?_
  refine qr_if_eq 11 4 rfl rfl rfl r1 (fun h1 => ?_) (fun h1 => ?_)
  · skip
    refine qr_aload_n 12 rfl rfl rfl ?_
    refine qr_get 15 rfl rfl rfl (by decide) rfl ?_
    refine qr_aload_n 16 rfl rfl rfl ?_
    refine qr_get 19 rfl rfl rfl (by decide) rfl ?_
    refine qr_aload_n 20 rfl rfl rfl ?_
    refine qr_get 23 rfl rfl rfl (by decide) rfl ?_
    refine qr_callN 26 rfl rfl rfl (sf_86_50_81x (d := d + 0) hI hz16_15 p0) ?_
    rintro _ _ ⟨σ4, α5, rfl, hI6, hG7, v2, rfl, hv2, hx3⟩
    have hF8 : qFr [(16, 15), (50, 3), (50, 4), (50, 5), (50, 6), (50, 7)] [51, 52] σ α σ4 α5 := qFr_t hF0 hG7 (by decide) (by decide)
    show qr_W (qe L xs vb) (d + 57) qx_e85 _ (26, _, [.int (qz v2)], qw σ4 α5 κ 50, 0, 0)
    have hcr : qRt (σ 16 15) (α 81) _ _ _ _ := hx3
    refine qr_istore_n _ 27 rfl (by decide) rfl rfl ?_
    refine qr_aload_n 28 rfl rfl rfl ?_
    refine qr_iconst 29 rfl rfl ?_
    refine qr_put 32 rfl (by decide) rfl (Nat.le_of_ble_eq_true rfl) (Nat.le_of_ble_eq_true rfl) (Or.inl rfl) (qr_fitI rfl _) rfl ?_
    refine qy_wS (qw_s σ4 16 15 0) rfl (fun σ9 e10 => ?_)
    have hI11 : qI σ9 α5 κ 50 := by rw [e10]; exact qI_s hI6 16 15 rfl (show 0 ≤ 0 ∧ 0 ≤ 120 by omega)
    have hF12 : qFr [(16, 15), (50, 3), (50, 4), (50, 5), (50, 6), (50, 7)] [51, 52] σ α σ9 α5 := by rw [e10]; exact qFr_s hF8 16 15 _ (by decide)
    refine qr_iload_n 33 rfl rfl rfl ?_
    refine qr_if_lt 41 36 rfl rfl rfl (qrg hv2 (by decide) (by decide)) (fun h13 => ?_) (fun h13 => ?_)
    · skip
      refine qr_aload_n 42 rfl rfl rfl ?_
      refine qr_get 45 rfl rfl rfl (by decide) rfl ?_
      refine qr_iload_n 46 rfl rfl rfl ?_
      obtain ⟨c14, hc15, hq16⟩ := qI_k hI11 (y := x1) (by omega)
      refine qr_aaload 47 rfl (by decide) rfl (by omega) (by decide) hc15 rfl ?_
      rcases hq16 with rfl | rfl | rfl
      · skip
        refine qr_astore_n _ 48 rfl (by decide) rfl rfl ?_
        refine qr_aload_n 49 rfl rfl rfl ?_
        refine qr_get 52 rfl rfl rfl (by decide) rfl ?_
        refine qr_iload_n 53 rfl rfl rfl ?_
        refine qr_aload_n 54 rfl rfl rfl ?_
        refine qr_get 57 rfl rfl rfl (by decide) rfl ?_
        refine qr_aastore 58 rfl (by decide) (by decide) rfl rfl (by omega) (by decide) rfl ?_
        show qr_W (qe L xs vb) (d + 57) qx_e85 _ (58, _, [], qw σ9 α5 (va_up κ (x1 : Int).toNat (some 50)) 50, 0, 0)
        refine qr_aload_n 59 rfl rfl rfl ?_
        refine qr_aload_n 60 rfl rfl rfl ?_
        refine qr_put 63 rfl (by decide) rfl (Nat.le_of_ble_eq_true rfl) (Nat.le_of_ble_eq_true rfl) (Or.inl rfl) (qr_fitR (Or.inl ⟨_, rfl⟩) _) rfl ?_
        show qr_W (qe L xs vb) (d + 57) qx_e85 _ (63, _, [], qw σ9 α5 (va_up κ (x1 : Int).toNat (some 50)) 50, 0, 0)
        refine qr_iconst 64 rfl rfl ?_
        have hw17 : σ9 16 15 = 0 := (congrFun (congrFun e10 16) 15).trans rfl
        refine qr_retI rfl rfl (by decide) (by decide) ?_
        exact ⟨_, _, _, _, rfl, qI_sw hI11 (x1 : Int).toNat 50 (Or.inl rfl), (qFr_up (by decide) (by decide) hF12), 1, rfl, by omega, Or.inr ⟨by omega, by omega, Or.inl ⟨by omega, fun N => by rcases hcr with h9 | h9; (exact h9.2.1 N); (exact False.elim (by have := h9.1; omega))⟩⟩, (by rcases (show qRt (σ 16 15) (α 81) _ (σ9 50 5) (σ9 50 6) (α5 52) from by rw [e10]; exact hcr) with h9 | h9; (exact qCW_s50 hF12 (by omega) hc15 (by omega) h9.2.2.1 h9.2.2.2.1 h9.2.2.2.2); (exact False.elim (by have := h9.1; omega)))⟩
      · skip
        refine qr_astore_n _ 48 rfl (by decide) rfl rfl ?_
        refine qr_aload_n 49 rfl rfl rfl ?_
        refine qr_get 52 rfl rfl rfl (by decide) rfl ?_
        refine qr_iload_n 53 rfl rfl rfl ?_
        refine qr_aload_n 54 rfl rfl rfl ?_
        refine qr_get 57 rfl rfl rfl (by decide) rfl ?_
        refine qr_aastore 58 rfl (by decide) (by decide) rfl rfl (by omega) (by decide) rfl ?_
        show qr_W (qe L xs vb) (d + 57) qx_e85 _ (58, _, [], qw σ9 α5 (va_up κ (x1 : Int).toNat (some 50)) 50, 0, 0)
        refine qr_aload_n 59 rfl rfl rfl ?_
        refine qr_aload_n 60 rfl rfl rfl ?_
        refine qr_put 63 rfl (by decide) rfl (Nat.le_of_ble_eq_true rfl) (Nat.le_of_ble_eq_true rfl) (Or.inl rfl) (qr_fitR (Or.inl ⟨_, rfl⟩) _) rfl ?_
        show qr_W (qe L xs vb) (d + 57) qx_e85 _ (63, _, [], qw σ9 α5 (va_up κ (x1 : Int).toNat (some 50)) 54, 0, 0)
        refine qr_iconst 64 rfl rfl ?_
        have hw18 : σ9 16 15 = 0 := (congrFun (congrFun e10 16) 15).trans rfl
        refine qr_retI rfl rfl (by decide) (by decide) ?_
        exact ⟨_, _, _, _, rfl, qI_sw hI11 (x1 : Int).toNat 54 (Or.inr (Or.inl rfl)), (qFr_up (by decide) (by decide) hF12), 1, rfl, by omega, Or.inr ⟨by omega, by omega, Or.inl ⟨by omega, fun N => by rcases hcr with h9 | h9; (exact h9.2.1 N); (exact False.elim (by have := h9.1; omega))⟩⟩, (by rcases (show qRt (σ 16 15) (α 81) _ (σ9 50 5) (σ9 50 6) (α5 52) from by rw [e10]; exact hcr) with h9 | h9; (exact qCW_s50 hF12 (by omega) hc15 (by omega) h9.2.2.1 h9.2.2.2.1 h9.2.2.2.2); (exact False.elim (by have := h9.1; omega)))⟩
      · skip
        refine qr_astore_n _ 48 rfl (by decide) rfl rfl ?_
        refine qr_aload_n 49 rfl rfl rfl ?_
        refine qr_get 52 rfl rfl rfl (by decide) rfl ?_
        refine qr_iload_n 53 rfl rfl rfl ?_
        refine qr_aload_n 54 rfl rfl rfl ?_
        refine qr_get 57 rfl rfl rfl (by decide) rfl ?_
        refine qr_aastore 58 rfl (by decide) (by decide) rfl rfl (by omega) (by decide) rfl ?_
        show qr_W (qe L xs vb) (d + 57) qx_e85 _ (58, _, [], qw σ9 α5 (va_up κ (x1 : Int).toNat (some 50)) 50, 0, 0)
        refine qr_aload_n 59 rfl rfl rfl ?_
        refine qr_aload_n 60 rfl rfl rfl ?_
        refine qr_put 63 rfl (by decide) rfl (Nat.le_of_ble_eq_true rfl) (Nat.le_of_ble_eq_true rfl) (Or.inl rfl) (qr_fitR (Or.inl ⟨_, rfl⟩) _) rfl ?_
        show qr_W (qe L xs vb) (d + 57) qx_e85 _ (63, _, [], qw σ9 α5 (va_up κ (x1 : Int).toNat (some 50)) 82, 0, 0)
        refine qr_iconst 64 rfl rfl ?_
        have hw19 : σ9 16 15 = 0 := (congrFun (congrFun e10 16) 15).trans rfl
        refine qr_retI rfl rfl (by decide) (by decide) ?_
        exact ⟨_, _, _, _, rfl, qI_sw hI11 (x1 : Int).toNat 82 (Or.inr (Or.inr rfl)), (qFr_up (by decide) (by decide) hF12), 1, rfl, by omega, Or.inr ⟨by omega, by omega, Or.inl ⟨by omega, fun N => by rcases hcr with h9 | h9; (exact h9.2.1 N); (exact False.elim (by have := h9.1; omega))⟩⟩, (by rcases (show qRt (σ 16 15) (α 81) _ (σ9 50 5) (σ9 50 6) (α5 52) from by rw [e10]; exact hcr) with h9 | h9; (exact qCW_s50 hF12 (by omega) hc15 (by omega) h9.2.2.1 h9.2.2.2.1 h9.2.2.2.2); (exact False.elim (by have := h9.1; omega)))⟩
    · skip
      refine qr_bipush 38 rfl (by decide) rfl ?_
      refine qr_iload_n 39 rfl rfl rfl ?_
      refine qr_isub 40 rfl rfl ?_
      have hw20 : σ9 16 15 = 0 := (congrFun (congrFun e10 16) 15).trans rfl
      refine qr_retI rfl rfl (by decide) (by decide) ?_
      exact ⟨_, _, _, _, rfl, hI11, (qFr_up (by decide) (by decide) hF12), ((-100) - v2), rfl, by omega, Or.inr ⟨by omega, by omega, Or.inr ⟨by omega, fun N => by rcases hcr with h9 | h9; (exact False.elim (by have := h9.1; omega)); (exact ⟨by have := (h9.2 N).1; omega, (h9.2 N).2⟩)⟩⟩, (qCW_f50 hF12 (by omega))⟩
  · skip
    refine qr_iload_n 5 rfl rfl rfl ?_
    refine qr_iconst 6 rfl rfl ?_
    refine qr_icmp_eq 11 9 rfl rfl rfl r1 (by decide) (fun h21 => ?_) (fun h21 => ?_)
    · skip
      refine qr_aload_n 12 rfl rfl rfl ?_
      refine qr_get 15 rfl rfl rfl (by decide) rfl ?_
      refine qr_aload_n 16 rfl rfl rfl ?_
      refine qr_get 19 rfl rfl rfl (by decide) rfl ?_
      refine qr_aload_n 20 rfl rfl rfl ?_
      refine qr_get 23 rfl rfl rfl (by decide) rfl ?_
      refine qr_callN 26 rfl rfl rfl (sf_86_50_81x (d := d + 0) hI hz16_15 p0) ?_
      rintro _ _ ⟨σ24, α25, rfl, hI26, hG27, v22, rfl, hv22, hx23⟩
      have hF28 : qFr [(16, 15), (50, 3), (50, 4), (50, 5), (50, 6), (50, 7)] [51, 52] σ α σ24 α25 := qFr_t hF0 hG27 (by decide) (by decide)
      show qr_W (qe L xs vb) (d + 57) qx_e85 _ (26, _, [.int (qz v22)], qw σ24 α25 κ 50, 0, 0)
      have hcr : qRt (σ 16 15) (α 81) _ _ _ _ := hx23
      refine qr_istore_n _ 27 rfl (by decide) rfl rfl ?_
      refine qr_aload_n 28 rfl rfl rfl ?_
      refine qr_iconst 29 rfl rfl ?_
      refine qr_put 32 rfl (by decide) rfl (Nat.le_of_ble_eq_true rfl) (Nat.le_of_ble_eq_true rfl) (Or.inl rfl) (qr_fitI rfl _) rfl ?_
      refine qy_wS (qw_s σ24 16 15 0) rfl (fun σ29 e30 => ?_)
      have hI31 : qI σ29 α25 κ 50 := by rw [e30]; exact qI_s hI26 16 15 rfl (show 0 ≤ 0 ∧ 0 ≤ 120 by omega)
      have hF32 : qFr [(16, 15), (50, 3), (50, 4), (50, 5), (50, 6), (50, 7)] [51, 52] σ α σ29 α25 := by rw [e30]; exact qFr_s hF28 16 15 _ (by decide)
      refine qr_iload_n 33 rfl rfl rfl ?_
      refine qr_if_lt 41 36 rfl rfl rfl (qrg hv22 (by decide) (by decide)) (fun h33 => ?_) (fun h33 => ?_)
      · skip
        refine qr_aload_n 42 rfl rfl rfl ?_
        refine qr_get 45 rfl rfl rfl (by decide) rfl ?_
        refine qr_iload_n 46 rfl rfl rfl ?_
        obtain ⟨c34, hc35, hq36⟩ := qI_k hI31 (y := x1) (by omega)
        refine qr_aaload 47 rfl (by decide) rfl (by omega) (by decide) hc35 rfl ?_
        rcases hq36 with rfl | rfl | rfl
        · skip
          refine qr_astore_n _ 48 rfl (by decide) rfl rfl ?_
          refine qr_aload_n 49 rfl rfl rfl ?_
          refine qr_get 52 rfl rfl rfl (by decide) rfl ?_
          refine qr_iload_n 53 rfl rfl rfl ?_
          refine qr_aload_n 54 rfl rfl rfl ?_
          refine qr_get 57 rfl rfl rfl (by decide) rfl ?_
          refine qr_aastore 58 rfl (by decide) (by decide) rfl rfl (by omega) (by decide) rfl ?_
          show qr_W (qe L xs vb) (d + 57) qx_e85 _ (58, _, [], qw σ29 α25 (va_up κ (x1 : Int).toNat (some 50)) 50, 0, 0)
          refine qr_aload_n 59 rfl rfl rfl ?_
          refine qr_aload_n 60 rfl rfl rfl ?_
          refine qr_put 63 rfl (by decide) rfl (Nat.le_of_ble_eq_true rfl) (Nat.le_of_ble_eq_true rfl) (Or.inl rfl) (qr_fitR (Or.inl ⟨_, rfl⟩) _) rfl ?_
          show qr_W (qe L xs vb) (d + 57) qx_e85 _ (63, _, [], qw σ29 α25 (va_up κ (x1 : Int).toNat (some 50)) 50, 0, 0)
          refine qr_iconst 64 rfl rfl ?_
          have hw37 : σ29 16 15 = 0 := (congrFun (congrFun e30 16) 15).trans rfl
          refine qr_retI rfl rfl (by decide) (by decide) ?_
          exact ⟨_, _, _, _, rfl, qI_sw hI31 (x1 : Int).toNat 50 (Or.inl rfl), (qFr_up (by decide) (by decide) hF32), 1, rfl, by omega, Or.inr ⟨by omega, by omega, Or.inl ⟨by omega, fun N => by rcases hcr with h9 | h9; (exact h9.2.1 N); (exact False.elim (by have := h9.1; omega))⟩⟩, (by rcases (show qRt (σ 16 15) (α 81) _ (σ29 50 5) (σ29 50 6) (α25 52) from by rw [e30]; exact hcr) with h9 | h9; (exact qCW_s50 hF32 (by omega) hc35 (by omega) h9.2.2.1 h9.2.2.2.1 h9.2.2.2.2); (exact False.elim (by have := h9.1; omega)))⟩
        · skip
          refine qr_astore_n _ 48 rfl (by decide) rfl rfl ?_
          refine qr_aload_n 49 rfl rfl rfl ?_
          refine qr_get 52 rfl rfl rfl (by decide) rfl ?_
          refine qr_iload_n 53 rfl rfl rfl ?_
          refine qr_aload_n 54 rfl rfl rfl ?_
          refine qr_get 57 rfl rfl rfl (by decide) rfl ?_
          refine qr_aastore 58 rfl (by decide) (by decide) rfl rfl (by omega) (by decide) rfl ?_
          show qr_W (qe L xs vb) (d + 57) qx_e85 _ (58, _, [], qw σ29 α25 (va_up κ (x1 : Int).toNat (some 50)) 50, 0, 0)
          refine qr_aload_n 59 rfl rfl rfl ?_
          refine qr_aload_n 60 rfl rfl rfl ?_
          refine qr_put 63 rfl (by decide) rfl (Nat.le_of_ble_eq_true rfl) (Nat.le_of_ble_eq_true rfl) (Or.inl rfl) (qr_fitR (Or.inl ⟨_, rfl⟩) _) rfl ?_
          show qr_W (qe L xs vb) (d + 57) qx_e85 _ (63, _, [], qw σ29 α25 (va_up κ (x1 : Int).toNat (some 50)) 54, 0, 0)
          refine qr_iconst 64 rfl rfl ?_
          have hw38 : σ29 16 15 = 0 := (congrFun (congrFun e30 16) 15).trans rfl
          refine qr_retI rfl rfl (by decide) (by decide) ?_
          exact ⟨_, _, _, _, rfl, qI_sw hI31 (x1 : Int).toNat 54 (Or.inr (Or.inl rfl)), (qFr_up (by decide) (by decide) hF32), 1, rfl, by omega, Or.inr ⟨by omega, by omega, Or.inl ⟨by omega, fun N => by rcases hcr with h9 | h9; (exact h9.2.1 N); (exact False.elim (by have := h9.1; omega))⟩⟩, (by rcases (show qRt (σ 16 15) (α 81) _ (σ29 50 5) (σ29 50 6) (α25 52) from by rw [e30]; exact hcr) with h9 | h9; (exact qCW_s50 hF32 (by omega) hc35 (by omega) h9.2.2.1 h9.2.2.2.1 h9.2.2.2.2); (exact False.elim (by have := h9.1; omega)))⟩
        · skip
          refine qr_astore_n _ 48 rfl (by decide) rfl rfl ?_
          refine qr_aload_n 49 rfl rfl rfl ?_
          refine qr_get 52 rfl rfl rfl (by decide) rfl ?_
          refine qr_iload_n 53 rfl rfl rfl ?_
          refine qr_aload_n 54 rfl rfl rfl ?_
          refine qr_get 57 rfl rfl rfl (by decide) rfl ?_
          refine qr_aastore 58 rfl (by decide) (by decide) rfl rfl (by omega) (by decide) rfl ?_
          show qr_W (qe L xs vb) (d + 57) qx_e85 _ (58, _, [], qw σ29 α25 (va_up κ (x1 : Int).toNat (some 50)) 50, 0, 0)
          refine qr_aload_n 59 rfl rfl rfl ?_
          refine qr_aload_n 60 rfl rfl rfl ?_
          refine qr_put 63 rfl (by decide) rfl (Nat.le_of_ble_eq_true rfl) (Nat.le_of_ble_eq_true rfl) (Or.inl rfl) (qr_fitR (Or.inl ⟨_, rfl⟩) _) rfl ?_
          show qr_W (qe L xs vb) (d + 57) qx_e85 _ (63, _, [], qw σ29 α25 (va_up κ (x1 : Int).toNat (some 50)) 82, 0, 0)
          refine qr_iconst 64 rfl rfl ?_
          have hw39 : σ29 16 15 = 0 := (congrFun (congrFun e30 16) 15).trans rfl
          refine qr_retI rfl rfl (by decide) (by decide) ?_
          exact ⟨_, _, _, _, rfl, qI_sw hI31 (x1 : Int).toNat 82 (Or.inr (Or.inr rfl)), (qFr_up (by decide) (by decide) hF32), 1, rfl, by omega, Or.inr ⟨by omega, by omega, Or.inl ⟨by omega, fun N => by rcases hcr with h9 | h9; (exact h9.2.1 N); (exact False.elim (by have := h9.1; omega))⟩⟩, (by rcases (show qRt (σ 16 15) (α 81) _ (σ29 50 5) (σ29 50 6) (α25 52) from by rw [e30]; exact hcr) with h9 | h9; (exact qCW_s50 hF32 (by omega) hc35 (by omega) h9.2.2.1 h9.2.2.2.1 h9.2.2.2.2); (exact False.elim (by have := h9.1; omega)))⟩
      · skip
        refine qr_bipush 38 rfl (by decide) rfl ?_
        refine qr_iload_n 39 rfl rfl rfl ?_
        refine qr_isub 40 rfl rfl ?_
        have hw40 : σ29 16 15 = 0 := (congrFun (congrFun e30 16) 15).trans rfl
        refine qr_retI rfl rfl (by decide) (by decide) ?_
        exact ⟨_, _, _, _, rfl, hI31, (qFr_up (by decide) (by decide) hF32), ((-100) - v22), rfl, by omega, Or.inr ⟨by omega, by omega, Or.inr ⟨by omega, fun N => by rcases hcr with h9 | h9; (exact False.elim (by have := h9.1; omega)); (exact ⟨by have := (h9.2 N).1; omega, (h9.2 N).2⟩)⟩⟩, (qCW_f50 hF32 (by omega))⟩
    · skip
      refine qr_iconst 10 rfl rfl ?_
      have hw41 : σ 16 15 = (σ 16 15) := rfl
      refine qr_retI rfl rfl (by decide) (by decide) ?_
      exact ⟨_, _, _, _, rfl, hI, (qFr_up (by decide) (by decide) hF0), (-1), rfl, by omega, Or.inl ⟨by omega, by omega, by omega⟩, (qCW_id (by omega))⟩

set_option maxHeartbeats 4000000 in
set_option maxRecDepth 20000 in
/-- OneRoof.custom -/
theorem sf_85_16w54 {L : Nat} {xs : Nat → Int} {vb : Bool} {d : Nat} {σ α : Nat → Nat → Int} {κ : Nat → Option Nat} {x1 : Int} (hI : qI σ α κ 54) (r1 : (-2147483648) ≤ x1 ∧ x1 ≤ 2147483647) (p0 : ∀ j : Nat, (j : Int) < σ 16 15 → 0 ≤ α 81 j ∧ α 81 j ≤ 255) : qm_T (qe L xs vb) (d + 58) 85 [.ref 16, .int (qz x1)] (qw σ α κ 54) (fun r w' => ∃ σ' α' κ' ρ', w' = qw σ' α' κ' ρ' ∧ qI σ' α' κ' ρ' ∧ qFr [(16, 15), (50, 3), (50, 4), (50, 5), (50, 6), (50, 7), (54, 3), (54, 4), (54, 5), (54, 6), (54, 7), (82, 3), (82, 4), (82, 5), (82, 6), (82, 7)] [51, 52, 55, 56, 83, 84] σ α σ' α' ∧ ∃ v : Int, r = some (.int (qz v)) ∧ (-2147483648 ≤ v ∧ v ≤ 2147483647) ∧ ((v = -1 ∧ ¬ (x1 = 0 ∨ x1 = 1) ∧ σ' 16 15 = σ 16 15) ∨ ((x1 = 0 ∨ x1 = 1) ∧ σ' 16 15 = 0 ∧ ((v = 1 ∧ ∀ N, (qtx_W (α 81) (σ 16 15) N).2.2 = 0) ∨ (v ≤ -100 ∧ ∀ N, v = -100 - (qtx_W (α 81) (σ 16 15) N).2.1 ∧ (qtx_W (α 81) (σ 16 15) N).2.2 = 1)))) ∧ qCW σ α κ 54 σ' α' κ' ρ' x1 v (fun N => (qtx_W (α 81) (σ 16 15) N).1)) := by
  refine qr_start (d := d + 57) qv_e85 (Nat.le_of_ble_eq_true rfl) ?_
  show qr_W (qe L xs vb) (d + 57) qx_e85 _ (0, [(0, .ref 16), (1, .int (qz x1))], [], _, 0, 0)
  have hF0 := qFr_rf [(16, 15), (54, 3), (54, 4), (54, 5), (54, 6), (54, 7)] [55, 56] σ α
  have hz16_15 : 0 ≤ σ 16 15 ∧ σ 16 15 ≤ 120 := hI.1 16 15
  refine qr_iload_n 1 rfl rfl rfl ?_
  refine qr_if_eq 11 4 rfl rfl rfl r1 (fun h1 => ?_) (fun h1 => ?_)
  · skip
    refine qr_aload_n 12 rfl rfl rfl ?_
    refine qr_get 15 rfl rfl rfl (by decide) rfl ?_
    refine qr_aload_n 16 rfl rfl rfl ?_
    refine qr_get 19 rfl rfl rfl (by decide) rfl ?_
    refine qr_aload_n 20 rfl rfl rfl ?_
    refine qr_get 23 rfl rfl rfl (by decide) rfl ?_
    refine qr_callN 26 rfl rfl rfl (sf_86_54_81x (d := d + 0) hI hz16_15 p0) ?_
    rintro _ _ ⟨σ4, α5, rfl, hI6, hG7, v2, rfl, hv2, hx3⟩
    have hF8 : qFr [(16, 15), (54, 3), (54, 4), (54, 5), (54, 6), (54, 7)] [55, 56] σ α σ4 α5 := qFr_t hF0 hG7 (by decide) (by decide)
    show qr_W (qe L xs vb) (d + 57) qx_e85 _ (26, _, [.int (qz v2)], qw σ4 α5 κ 54, 0, 0)
    have hcr : qRt (σ 16 15) (α 81) _ _ _ _ := hx3
    refine qr_istore_n _ 27 rfl (by decide) rfl rfl ?_
    refine qr_aload_n 28 rfl rfl rfl ?_
    refine qr_iconst 29 rfl rfl ?_
    refine qr_put 32 rfl (by decide) rfl (Nat.le_of_ble_eq_true rfl) (Nat.le_of_ble_eq_true rfl) (Or.inl rfl) (qr_fitI rfl _) rfl ?_
    refine qy_wS (qw_s σ4 16 15 0) rfl (fun σ9 e10 => ?_)
    have hI11 : qI σ9 α5 κ 54 := by rw [e10]; exact qI_s hI6 16 15 rfl (show 0 ≤ 0 ∧ 0 ≤ 120 by omega)
    have hF12 : qFr [(16, 15), (54, 3), (54, 4), (54, 5), (54, 6), (54, 7)] [55, 56] σ α σ9 α5 := by rw [e10]; exact qFr_s hF8 16 15 _ (by decide)
    refine qr_iload_n 33 rfl rfl rfl ?_
    refine qr_if_lt 41 36 rfl rfl rfl (qrg hv2 (by decide) (by decide)) (fun h13 => ?_) (fun h13 => ?_)
    · skip
      refine qr_aload_n 42 rfl rfl rfl ?_
      refine qr_get 45 rfl rfl rfl (by decide) rfl ?_
      refine qr_iload_n 46 rfl rfl rfl ?_
      obtain ⟨c14, hc15, hq16⟩ := qI_k hI11 (y := x1) (by omega)
      refine qr_aaload 47 rfl (by decide) rfl (by omega) (by decide) hc15 rfl ?_
      rcases hq16 with rfl | rfl | rfl
      · skip
        refine qr_astore_n _ 48 rfl (by decide) rfl rfl ?_
        refine qr_aload_n 49 rfl rfl rfl ?_
        refine qr_get 52 rfl rfl rfl (by decide) rfl ?_
        refine qr_iload_n 53 rfl rfl rfl ?_
        refine qr_aload_n 54 rfl rfl rfl ?_
        refine qr_get 57 rfl rfl rfl (by decide) rfl ?_
        refine qr_aastore 58 rfl (by decide) (by decide) rfl rfl (by omega) (by decide) rfl ?_
        show qr_W (qe L xs vb) (d + 57) qx_e85 _ (58, _, [], qw σ9 α5 (va_up κ (x1 : Int).toNat (some 54)) 54, 0, 0)
        refine qr_aload_n 59 rfl rfl rfl ?_
        refine qr_aload_n 60 rfl rfl rfl ?_
        refine qr_put 63 rfl (by decide) rfl (Nat.le_of_ble_eq_true rfl) (Nat.le_of_ble_eq_true rfl) (Or.inl rfl) (qr_fitR (Or.inl ⟨_, rfl⟩) _) rfl ?_
        show qr_W (qe L xs vb) (d + 57) qx_e85 _ (63, _, [], qw σ9 α5 (va_up κ (x1 : Int).toNat (some 54)) 50, 0, 0)
        refine qr_iconst 64 rfl rfl ?_
        have hw17 : σ9 16 15 = 0 := (congrFun (congrFun e10 16) 15).trans rfl
        refine qr_retI rfl rfl (by decide) (by decide) ?_
        exact ⟨_, _, _, _, rfl, qI_sw hI11 (x1 : Int).toNat 50 (Or.inl rfl), (qFr_up (by decide) (by decide) hF12), 1, rfl, by omega, Or.inr ⟨by omega, by omega, Or.inl ⟨by omega, fun N => by rcases hcr with h9 | h9; (exact h9.2.1 N); (exact False.elim (by have := h9.1; omega))⟩⟩, (by rcases (show qRt (σ 16 15) (α 81) _ (σ9 54 5) (σ9 54 6) (α5 56) from by rw [e10]; exact hcr) with h9 | h9; (exact qCW_s54 hF12 (by omega) hc15 (by omega) h9.2.2.1 h9.2.2.2.1 h9.2.2.2.2); (exact False.elim (by have := h9.1; omega)))⟩
      · skip
        refine qr_astore_n _ 48 rfl (by decide) rfl rfl ?_
        refine qr_aload_n 49 rfl rfl rfl ?_
        refine qr_get 52 rfl rfl rfl (by decide) rfl ?_
        refine qr_iload_n 53 rfl rfl rfl ?_
        refine qr_aload_n 54 rfl rfl rfl ?_
        refine qr_get 57 rfl rfl rfl (by decide) rfl ?_
        refine qr_aastore 58 rfl (by decide) (by decide) rfl rfl (by omega) (by decide) rfl ?_
        show qr_W (qe L xs vb) (d + 57) qx_e85 _ (58, _, [], qw σ9 α5 (va_up κ (x1 : Int).toNat (some 54)) 54, 0, 0)
        refine qr_aload_n 59 rfl rfl rfl ?_
        refine qr_aload_n 60 rfl rfl rfl ?_
        refine qr_put 63 rfl (by decide) rfl (Nat.le_of_ble_eq_true rfl) (Nat.le_of_ble_eq_true rfl) (Or.inl rfl) (qr_fitR (Or.inl ⟨_, rfl⟩) _) rfl ?_
        show qr_W (qe L xs vb) (d + 57) qx_e85 _ (63, _, [], qw σ9 α5 (va_up κ (x1 : Int).toNat (some 54)) 54, 0, 0)
        refine qr_iconst 64 rfl rfl ?_
        have hw18 : σ9 16 15 = 0 := (congrFun (congrFun e10 16) 15).trans rfl
        refine qr_retI rfl rfl (by decide) (by decide) ?_
        exact ⟨_, _, _, _, rfl, qI_sw hI11 (x1 : Int).toNat 54 (Or.inr (Or.inl rfl)), (qFr_up (by decide) (by decide) hF12), 1, rfl, by omega, Or.inr ⟨by omega, by omega, Or.inl ⟨by omega, fun N => by rcases hcr with h9 | h9; (exact h9.2.1 N); (exact False.elim (by have := h9.1; omega))⟩⟩, (by rcases (show qRt (σ 16 15) (α 81) _ (σ9 54 5) (σ9 54 6) (α5 56) from by rw [e10]; exact hcr) with h9 | h9; (exact qCW_s54 hF12 (by omega) hc15 (by omega) h9.2.2.1 h9.2.2.2.1 h9.2.2.2.2); (exact False.elim (by have := h9.1; omega)))⟩
      · skip
        refine qr_astore_n _ 48 rfl (by decide) rfl rfl ?_
        refine qr_aload_n 49 rfl rfl rfl ?_
        refine qr_get 52 rfl rfl rfl (by decide) rfl ?_
        refine qr_iload_n 53 rfl rfl rfl ?_
        refine qr_aload_n 54 rfl rfl rfl ?_
        refine qr_get 57 rfl rfl rfl (by decide) rfl ?_
        refine qr_aastore 58 rfl (by decide) (by decide) rfl rfl (by omega) (by decide) rfl ?_
        show qr_W (qe L xs vb) (d + 57) qx_e85 _ (58, _, [], qw σ9 α5 (va_up κ (x1 : Int).toNat (some 54)) 54, 0, 0)
        refine qr_aload_n 59 rfl rfl rfl ?_
        refine qr_aload_n 60 rfl rfl rfl ?_
        refine qr_put 63 rfl (by decide) rfl (Nat.le_of_ble_eq_true rfl) (Nat.le_of_ble_eq_true rfl) (Or.inl rfl) (qr_fitR (Or.inl ⟨_, rfl⟩) _) rfl ?_
        show qr_W (qe L xs vb) (d + 57) qx_e85 _ (63, _, [], qw σ9 α5 (va_up κ (x1 : Int).toNat (some 54)) 82, 0, 0)
        refine qr_iconst 64 rfl rfl ?_
        have hw19 : σ9 16 15 = 0 := (congrFun (congrFun e10 16) 15).trans rfl
        refine qr_retI rfl rfl (by decide) (by decide) ?_
        exact ⟨_, _, _, _, rfl, qI_sw hI11 (x1 : Int).toNat 82 (Or.inr (Or.inr rfl)), (qFr_up (by decide) (by decide) hF12), 1, rfl, by omega, Or.inr ⟨by omega, by omega, Or.inl ⟨by omega, fun N => by rcases hcr with h9 | h9; (exact h9.2.1 N); (exact False.elim (by have := h9.1; omega))⟩⟩, (by rcases (show qRt (σ 16 15) (α 81) _ (σ9 54 5) (σ9 54 6) (α5 56) from by rw [e10]; exact hcr) with h9 | h9; (exact qCW_s54 hF12 (by omega) hc15 (by omega) h9.2.2.1 h9.2.2.2.1 h9.2.2.2.2); (exact False.elim (by have := h9.1; omega)))⟩
    · skip
      refine qr_bipush 38 rfl (by decide) rfl ?_
      refine qr_iload_n 39 rfl rfl rfl ?_
      refine qr_isub 40 rfl rfl ?_
      have hw20 : σ9 16 15 = 0 := (congrFun (congrFun e10 16) 15).trans rfl
      refine qr_retI rfl rfl (by decide) (by decide) ?_
      exact ⟨_, _, _, _, rfl, hI11, (qFr_up (by decide) (by decide) hF12), ((-100) - v2), rfl, by omega, Or.inr ⟨by omega, by omega, Or.inr ⟨by omega, fun N => by rcases hcr with h9 | h9; (exact False.elim (by have := h9.1; omega)); (exact ⟨by have := (h9.2 N).1; omega, (h9.2 N).2⟩)⟩⟩, (qCW_f54 hF12 (by omega))⟩
  · skip
    refine qr_iload_n 5 rfl rfl rfl ?_
    refine qr_iconst 6 rfl rfl ?_
    refine qr_icmp_eq 11 9 rfl rfl rfl r1 (by decide) (fun h21 => ?_) (fun h21 => ?_)
    · skip
      refine qr_aload_n 12 rfl rfl rfl ?_
      refine qr_get 15 rfl rfl rfl (by decide) rfl ?_
      refine qr_aload_n 16 rfl rfl rfl ?_
      refine qr_get 19 rfl rfl rfl (by decide) rfl ?_
      refine qr_aload_n 20 rfl rfl rfl ?_
      refine qr_get 23 rfl rfl rfl (by decide) rfl ?_
      refine qr_callN 26 rfl rfl rfl (sf_86_54_81x (d := d + 0) hI hz16_15 p0) ?_
      rintro _ _ ⟨σ24, α25, rfl, hI26, hG27, v22, rfl, hv22, hx23⟩
      have hF28 : qFr [(16, 15), (54, 3), (54, 4), (54, 5), (54, 6), (54, 7)] [55, 56] σ α σ24 α25 := qFr_t hF0 hG27 (by decide) (by decide)
      show qr_W (qe L xs vb) (d + 57) qx_e85 _ (26, _, [.int (qz v22)], qw σ24 α25 κ 54, 0, 0)
      have hcr : qRt (σ 16 15) (α 81) _ _ _ _ := hx23
      refine qr_istore_n _ 27 rfl (by decide) rfl rfl ?_
      refine qr_aload_n 28 rfl rfl rfl ?_
      refine qr_iconst 29 rfl rfl ?_
      refine qr_put 32 rfl (by decide) rfl (Nat.le_of_ble_eq_true rfl) (Nat.le_of_ble_eq_true rfl) (Or.inl rfl) (qr_fitI rfl _) rfl ?_
      refine qy_wS (qw_s σ24 16 15 0) rfl (fun σ29 e30 => ?_)
      have hI31 : qI σ29 α25 κ 54 := by rw [e30]; exact qI_s hI26 16 15 rfl (show 0 ≤ 0 ∧ 0 ≤ 120 by omega)
      have hF32 : qFr [(16, 15), (54, 3), (54, 4), (54, 5), (54, 6), (54, 7)] [55, 56] σ α σ29 α25 := by rw [e30]; exact qFr_s hF28 16 15 _ (by decide)
      refine qr_iload_n 33 rfl rfl rfl ?_
      refine qr_if_lt 41 36 rfl rfl rfl (qrg hv22 (by decide) (by decide)) (fun h33 => ?_) (fun h33 => ?_)
      · skip
        refine qr_aload_n 42 rfl rfl rfl ?_
        refine qr_get 45 rfl rfl rfl (by decide) rfl ?_
        refine qr_iload_n 46 rfl rfl rfl ?_
        obtain ⟨c34, hc35, hq36⟩ := qI_k hI31 (y := x1) (by omega)
        refine qr_aaload 47 rfl (by decide) rfl (by omega) (by decide) hc35 rfl ?_
        rcases hq36 with rfl | rfl | rfl
        · skip
          refine qr_astore_n _ 48 rfl (by decide) rfl rfl ?_
          refine qr_aload_n 49 rfl rfl rfl ?_
          refine qr_get 52 rfl rfl rfl (by decide) rfl ?_
          refine qr_iload_n 53 rfl rfl rfl ?_
          refine qr_aload_n 54 rfl rfl rfl ?_
          refine qr_get 57 rfl rfl rfl (by decide) rfl ?_
          refine qr_aastore 58 rfl (by decide) (by decide) rfl rfl (by omega) (by decide) rfl ?_
          show qr_W (qe L xs vb) (d + 57) qx_e85 _ (58, _, [], qw σ29 α25 (va_up κ (x1 : Int).toNat (some 54)) 54, 0, 0)
          refine qr_aload_n 59 rfl rfl rfl ?_
          refine qr_aload_n 60 rfl rfl rfl ?_
          refine qr_put 63 rfl (by decide) rfl (Nat.le_of_ble_eq_true rfl) (Nat.le_of_ble_eq_true rfl) (Or.inl rfl) (qr_fitR (Or.inl ⟨_, rfl⟩) _) rfl ?_
          show qr_W (qe L xs vb) (d + 57) qx_e85 _ (63, _, [], qw σ29 α25 (va_up κ (x1 : Int).toNat (some 54)) 50, 0, 0)
          refine qr_iconst 64 rfl rfl ?_
          have hw37 : σ29 16 15 = 0 := (congrFun (congrFun e30 16) 15).trans rfl
          refine qr_retI rfl rfl (by decide) (by decide) ?_
          exact ⟨_, _, _, _, rfl, qI_sw hI31 (x1 : Int).toNat 50 (Or.inl rfl), (qFr_up (by decide) (by decide) hF32), 1, rfl, by omega, Or.inr ⟨by omega, by omega, Or.inl ⟨by omega, fun N => by rcases hcr with h9 | h9; (exact h9.2.1 N); (exact False.elim (by have := h9.1; omega))⟩⟩, (by rcases (show qRt (σ 16 15) (α 81) _ (σ29 54 5) (σ29 54 6) (α25 56) from by rw [e30]; exact hcr) with h9 | h9; (exact qCW_s54 hF32 (by omega) hc35 (by omega) h9.2.2.1 h9.2.2.2.1 h9.2.2.2.2); (exact False.elim (by have := h9.1; omega)))⟩
        · skip
          refine qr_astore_n _ 48 rfl (by decide) rfl rfl ?_
          refine qr_aload_n 49 rfl rfl rfl ?_
          refine qr_get 52 rfl rfl rfl (by decide) rfl ?_
          refine qr_iload_n 53 rfl rfl rfl ?_
          refine qr_aload_n 54 rfl rfl rfl ?_
          refine qr_get 57 rfl rfl rfl (by decide) rfl ?_
          refine qr_aastore 58 rfl (by decide) (by decide) rfl rfl (by omega) (by decide) rfl ?_
          show qr_W (qe L xs vb) (d + 57) qx_e85 _ (58, _, [], qw σ29 α25 (va_up κ (x1 : Int).toNat (some 54)) 54, 0, 0)
          refine qr_aload_n 59 rfl rfl rfl ?_
          refine qr_aload_n 60 rfl rfl rfl ?_
          refine qr_put 63 rfl (by decide) rfl (Nat.le_of_ble_eq_true rfl) (Nat.le_of_ble_eq_true rfl) (Or.inl rfl) (qr_fitR (Or.inl ⟨_, rfl⟩) _) rfl ?_
          show qr_W (qe L xs vb) (d + 57) qx_e85 _ (63, _, [], qw σ29 α25 (va_up κ (x1 : Int).toNat (some 54)) 54, 0, 0)
          refine qr_iconst 64 rfl rfl ?_
          have hw38 : σ29 16 15 = 0 := (congrFun (congrFun e30 16) 15).trans rfl
          refine qr_retI rfl rfl (by decide) (by decide) ?_
          exact ⟨_, _, _, _, rfl, qI_sw hI31 (x1 : Int).toNat 54 (Or.inr (Or.inl rfl)), (qFr_up (by decide) (by decide) hF32), 1, rfl, by omega, Or.inr ⟨by omega, by omega, Or.inl ⟨by omega, fun N => by rcases hcr with h9 | h9; (exact h9.2.1 N); (exact False.elim (by have := h9.1; omega))⟩⟩, (by rcases (show qRt (σ 16 15) (α 81) _ (σ29 54 5) (σ29 54 6) (α25 56) from by rw [e30]; exact hcr) with h9 | h9; (exact qCW_s54 hF32 (by omega) hc35 (by omega) h9.2.2.1 h9.2.2.2.1 h9.2.2.2.2); (exact False.elim (by have := h9.1; omega)))⟩
        · skip
          refine qr_astore_n _ 48 rfl (by decide) rfl rfl ?_
          refine qr_aload_n 49 rfl rfl rfl ?_
          refine qr_get 52 rfl rfl rfl (by decide) rfl ?_
          refine qr_iload_n 53 rfl rfl rfl ?_
          refine qr_aload_n 54 rfl rfl rfl ?_
          refine qr_get 57 rfl rfl rfl (by decide) rfl ?_
          refine qr_aastore 58 rfl (by decide) (by decide) rfl rfl (by omega) (by decide) rfl ?_
          show qr_W (qe L xs vb) (d + 57) qx_e85 _ (58, _, [], qw σ29 α25 (va_up κ (x1 : Int).toNat (some 54)) 54, 0, 0)
          refine qr_aload_n 59 rfl rfl rfl ?_
          refine qr_aload_n 60 rfl rfl rfl ?_
          refine qr_put 63 rfl (by decide) rfl (Nat.le_of_ble_eq_true rfl) (Nat.le_of_ble_eq_true rfl) (Or.inl rfl) (qr_fitR (Or.inl ⟨_, rfl⟩) _) rfl ?_
          show qr_W (qe L xs vb) (d + 57) qx_e85 _ (63, _, [], qw σ29 α25 (va_up κ (x1 : Int).toNat (some 54)) 82, 0, 0)
          refine qr_iconst 64 rfl rfl ?_
          have hw39 : σ29 16 15 = 0 := (congrFun (congrFun e30 16) 15).trans rfl
          refine qr_retI rfl rfl (by decide) (by decide) ?_
          exact ⟨_, _, _, _, rfl, qI_sw hI31 (x1 : Int).toNat 82 (Or.inr (Or.inr rfl)), (qFr_up (by decide) (by decide) hF32), 1, rfl, by omega, Or.inr ⟨by omega, by omega, Or.inl ⟨by omega, fun N => by rcases hcr with h9 | h9; (exact h9.2.1 N); (exact False.elim (by have := h9.1; omega))⟩⟩, (by rcases (show qRt (σ 16 15) (α 81) _ (σ29 54 5) (σ29 54 6) (α25 56) from by rw [e30]; exact hcr) with h9 | h9; (exact qCW_s54 hF32 (by omega) hc35 (by omega) h9.2.2.1 h9.2.2.2.1 h9.2.2.2.2); (exact False.elim (by have := h9.1; omega)))⟩
      · skip
        refine qr_bipush 38 rfl (by decide) rfl ?_
        refine qr_iload_n 39 rfl rfl rfl ?_
        refine qr_isub 40 rfl rfl ?_
        have hw40 : σ29 16 15 = 0 := (congrFun (congrFun e30 16) 15).trans rfl
        refine qr_retI rfl rfl (by decide) (by decide) ?_
        exact ⟨_, _, _, _, rfl, hI31, (qFr_up (by decide) (by decide) hF32), ((-100) - v22), rfl, by omega, Or.inr ⟨by omega, by omega, Or.inr ⟨by omega, fun N => by rcases hcr with h9 | h9; (exact False.elim (by have := h9.1; omega)); (exact ⟨by have := (h9.2 N).1; omega, (h9.2 N).2⟩)⟩⟩, (qCW_f54 hF32 (by omega))⟩
    · skip
      refine qr_iconst 10 rfl rfl ?_
      have hw41 : σ 16 15 = (σ 16 15) := rfl
      refine qr_retI rfl rfl (by decide) (by decide) ?_
      exact ⟨_, _, _, _, rfl, hI, (qFr_up (by decide) (by decide) hF0), (-1), rfl, by omega, Or.inl ⟨by omega, by omega, by omega⟩, (qCW_id (by omega))⟩

set_option maxHeartbeats 4000000 in
set_option maxRecDepth 20000 in
/-- OneRoof.custom -/
theorem sf_85_16w82 {L : Nat} {xs : Nat → Int} {vb : Bool} {d : Nat} {σ α : Nat → Nat → Int} {κ : Nat → Option Nat} {x1 : Int} (hI : qI σ α κ 82) (r1 : (-2147483648) ≤ x1 ∧ x1 ≤ 2147483647) (p0 : ∀ j : Nat, (j : Int) < σ 16 15 → 0 ≤ α 81 j ∧ α 81 j ≤ 255) : qm_T (qe L xs vb) (d + 58) 85 [.ref 16, .int (qz x1)] (qw σ α κ 82) (fun r w' => ∃ σ' α' κ' ρ', w' = qw σ' α' κ' ρ' ∧ qI σ' α' κ' ρ' ∧ qFr [(16, 15), (50, 3), (50, 4), (50, 5), (50, 6), (50, 7), (54, 3), (54, 4), (54, 5), (54, 6), (54, 7), (82, 3), (82, 4), (82, 5), (82, 6), (82, 7)] [51, 52, 55, 56, 83, 84] σ α σ' α' ∧ ∃ v : Int, r = some (.int (qz v)) ∧ (-2147483648 ≤ v ∧ v ≤ 2147483647) ∧ ((v = -1 ∧ ¬ (x1 = 0 ∨ x1 = 1) ∧ σ' 16 15 = σ 16 15) ∨ ((x1 = 0 ∨ x1 = 1) ∧ σ' 16 15 = 0 ∧ ((v = 1 ∧ ∀ N, (qtx_W (α 81) (σ 16 15) N).2.2 = 0) ∨ (v ≤ -100 ∧ ∀ N, v = -100 - (qtx_W (α 81) (σ 16 15) N).2.1 ∧ (qtx_W (α 81) (σ 16 15) N).2.2 = 1)))) ∧ qCW σ α κ 82 σ' α' κ' ρ' x1 v (fun N => (qtx_W (α 81) (σ 16 15) N).1)) := by
  refine qr_start (d := d + 57) qv_e85 (Nat.le_of_ble_eq_true rfl) ?_
  show qr_W (qe L xs vb) (d + 57) qx_e85 _ (0, [(0, .ref 16), (1, .int (qz x1))], [], _, 0, 0)
  have hF0 := qFr_rf [(16, 15), (82, 3), (82, 4), (82, 5), (82, 6), (82, 7)] [83, 84] σ α
  have hz16_15 : 0 ≤ σ 16 15 ∧ σ 16 15 ≤ 120 := hI.1 16 15
  refine qr_iload_n 1 rfl rfl rfl ?_
  refine qr_if_eq 11 4 rfl rfl rfl r1 (fun h1 => ?_) (fun h1 => ?_)
  · skip
    refine qr_aload_n 12 rfl rfl rfl ?_
    refine qr_get 15 rfl rfl rfl (by decide) rfl ?_
    refine qr_aload_n 16 rfl rfl rfl ?_
    refine qr_get 19 rfl rfl rfl (by decide) rfl ?_
    refine qr_aload_n 20 rfl rfl rfl ?_
    refine qr_get 23 rfl rfl rfl (by decide) rfl ?_
    refine qr_callN 26 rfl rfl rfl (sf_86_82_81x (d := d + 0) hI hz16_15 p0) ?_
    rintro _ _ ⟨σ4, α5, rfl, hI6, hG7, v2, rfl, hv2, hx3⟩
    have hF8 : qFr [(16, 15), (82, 3), (82, 4), (82, 5), (82, 6), (82, 7)] [83, 84] σ α σ4 α5 := qFr_t hF0 hG7 (by decide) (by decide)
    show qr_W (qe L xs vb) (d + 57) qx_e85 _ (26, _, [.int (qz v2)], qw σ4 α5 κ 82, 0, 0)
    have hcr : qRt (σ 16 15) (α 81) _ _ _ _ := hx3
    refine qr_istore_n _ 27 rfl (by decide) rfl rfl ?_
    refine qr_aload_n 28 rfl rfl rfl ?_
    refine qr_iconst 29 rfl rfl ?_
    refine qr_put 32 rfl (by decide) rfl (Nat.le_of_ble_eq_true rfl) (Nat.le_of_ble_eq_true rfl) (Or.inl rfl) (qr_fitI rfl _) rfl ?_
    refine qy_wS (qw_s σ4 16 15 0) rfl (fun σ9 e10 => ?_)
    have hI11 : qI σ9 α5 κ 82 := by rw [e10]; exact qI_s hI6 16 15 rfl (show 0 ≤ 0 ∧ 0 ≤ 120 by omega)
    have hF12 : qFr [(16, 15), (82, 3), (82, 4), (82, 5), (82, 6), (82, 7)] [83, 84] σ α σ9 α5 := by rw [e10]; exact qFr_s hF8 16 15 _ (by decide)
    refine qr_iload_n 33 rfl rfl rfl ?_
    refine qr_if_lt 41 36 rfl rfl rfl (qrg hv2 (by decide) (by decide)) (fun h13 => ?_) (fun h13 => ?_)
    · skip
      refine qr_aload_n 42 rfl rfl rfl ?_
      refine qr_get 45 rfl rfl rfl (by decide) rfl ?_
      refine qr_iload_n 46 rfl rfl rfl ?_
      obtain ⟨c14, hc15, hq16⟩ := qI_k hI11 (y := x1) (by omega)
      refine qr_aaload 47 rfl (by decide) rfl (by omega) (by decide) hc15 rfl ?_
      rcases hq16 with rfl | rfl | rfl
      · skip
        refine qr_astore_n _ 48 rfl (by decide) rfl rfl ?_
        refine qr_aload_n 49 rfl rfl rfl ?_
        refine qr_get 52 rfl rfl rfl (by decide) rfl ?_
        refine qr_iload_n 53 rfl rfl rfl ?_
        refine qr_aload_n 54 rfl rfl rfl ?_
        refine qr_get 57 rfl rfl rfl (by decide) rfl ?_
        refine qr_aastore 58 rfl (by decide) (by decide) rfl rfl (by omega) (by decide) rfl ?_
        show qr_W (qe L xs vb) (d + 57) qx_e85 _ (58, _, [], qw σ9 α5 (va_up κ (x1 : Int).toNat (some 82)) 82, 0, 0)
        refine qr_aload_n 59 rfl rfl rfl ?_
        refine qr_aload_n 60 rfl rfl rfl ?_
        refine qr_put 63 rfl (by decide) rfl (Nat.le_of_ble_eq_true rfl) (Nat.le_of_ble_eq_true rfl) (Or.inl rfl) (qr_fitR (Or.inl ⟨_, rfl⟩) _) rfl ?_
        show qr_W (qe L xs vb) (d + 57) qx_e85 _ (63, _, [], qw σ9 α5 (va_up κ (x1 : Int).toNat (some 82)) 50, 0, 0)
        refine qr_iconst 64 rfl rfl ?_
        have hw17 : σ9 16 15 = 0 := (congrFun (congrFun e10 16) 15).trans rfl
        refine qr_retI rfl rfl (by decide) (by decide) ?_
        exact ⟨_, _, _, _, rfl, qI_sw hI11 (x1 : Int).toNat 50 (Or.inl rfl), (qFr_up (by decide) (by decide) hF12), 1, rfl, by omega, Or.inr ⟨by omega, by omega, Or.inl ⟨by omega, fun N => by rcases hcr with h9 | h9; (exact h9.2.1 N); (exact False.elim (by have := h9.1; omega))⟩⟩, (by rcases (show qRt (σ 16 15) (α 81) _ (σ9 82 5) (σ9 82 6) (α5 84) from by rw [e10]; exact hcr) with h9 | h9; (exact qCW_s82 hF12 (by omega) hc15 (by omega) h9.2.2.1 h9.2.2.2.1 h9.2.2.2.2); (exact False.elim (by have := h9.1; omega)))⟩
      · skip
        refine qr_astore_n _ 48 rfl (by decide) rfl rfl ?_
        refine qr_aload_n 49 rfl rfl rfl ?_
        refine qr_get 52 rfl rfl rfl (by decide) rfl ?_
        refine qr_iload_n 53 rfl rfl rfl ?_
        refine qr_aload_n 54 rfl rfl rfl ?_
        refine qr_get 57 rfl rfl rfl (by decide) rfl ?_
        refine qr_aastore 58 rfl (by decide) (by decide) rfl rfl (by omega) (by decide) rfl ?_
        show qr_W (qe L xs vb) (d + 57) qx_e85 _ (58, _, [], qw σ9 α5 (va_up κ (x1 : Int).toNat (some 82)) 82, 0, 0)
        refine qr_aload_n 59 rfl rfl rfl ?_
        refine qr_aload_n 60 rfl rfl rfl ?_
        refine qr_put 63 rfl (by decide) rfl (Nat.le_of_ble_eq_true rfl) (Nat.le_of_ble_eq_true rfl) (Or.inl rfl) (qr_fitR (Or.inl ⟨_, rfl⟩) _) rfl ?_
        show qr_W (qe L xs vb) (d + 57) qx_e85 _ (63, _, [], qw σ9 α5 (va_up κ (x1 : Int).toNat (some 82)) 54, 0, 0)
        refine qr_iconst 64 rfl rfl ?_
        have hw18 : σ9 16 15 = 0 := (congrFun (congrFun e10 16) 15).trans rfl
        refine qr_retI rfl rfl (by decide) (by decide) ?_
        exact ⟨_, _, _, _, rfl, qI_sw hI11 (x1 : Int).toNat 54 (Or.inr (Or.inl rfl)), (qFr_up (by decide) (by decide) hF12), 1, rfl, by omega, Or.inr ⟨by omega, by omega, Or.inl ⟨by omega, fun N => by rcases hcr with h9 | h9; (exact h9.2.1 N); (exact False.elim (by have := h9.1; omega))⟩⟩, (by rcases (show qRt (σ 16 15) (α 81) _ (σ9 82 5) (σ9 82 6) (α5 84) from by rw [e10]; exact hcr) with h9 | h9; (exact qCW_s82 hF12 (by omega) hc15 (by omega) h9.2.2.1 h9.2.2.2.1 h9.2.2.2.2); (exact False.elim (by have := h9.1; omega)))⟩
      · skip
        refine qr_astore_n _ 48 rfl (by decide) rfl rfl ?_
        refine qr_aload_n 49 rfl rfl rfl ?_
        refine qr_get 52 rfl rfl rfl (by decide) rfl ?_
        refine qr_iload_n 53 rfl rfl rfl ?_
        refine qr_aload_n 54 rfl rfl rfl ?_
        refine qr_get 57 rfl rfl rfl (by decide) rfl ?_
        refine qr_aastore 58 rfl (by decide) (by decide) rfl rfl (by omega) (by decide) rfl ?_
        show qr_W (qe L xs vb) (d + 57) qx_e85 _ (58, _, [], qw σ9 α5 (va_up κ (x1 : Int).toNat (some 82)) 82, 0, 0)
        refine qr_aload_n 59 rfl rfl rfl ?_
        refine qr_aload_n 60 rfl rfl rfl ?_
        refine qr_put 63 rfl (by decide) rfl (Nat.le_of_ble_eq_true rfl) (Nat.le_of_ble_eq_true rfl) (Or.inl rfl) (qr_fitR (Or.inl ⟨_, rfl⟩) _) rfl ?_
        show qr_W (qe L xs vb) (d + 57) qx_e85 _ (63, _, [], qw σ9 α5 (va_up κ (x1 : Int).toNat (some 82)) 82, 0, 0)
        refine qr_iconst 64 rfl rfl ?_
        have hw19 : σ9 16 15 = 0 := (congrFun (congrFun e10 16) 15).trans rfl
        refine qr_retI rfl rfl (by decide) (by decide) ?_
        exact ⟨_, _, _, _, rfl, qI_sw hI11 (x1 : Int).toNat 82 (Or.inr (Or.inr rfl)), (qFr_up (by decide) (by decide) hF12), 1, rfl, by omega, Or.inr ⟨by omega, by omega, Or.inl ⟨by omega, fun N => by rcases hcr with h9 | h9; (exact h9.2.1 N); (exact False.elim (by have := h9.1; omega))⟩⟩, (by rcases (show qRt (σ 16 15) (α 81) _ (σ9 82 5) (σ9 82 6) (α5 84) from by rw [e10]; exact hcr) with h9 | h9; (exact qCW_s82 hF12 (by omega) hc15 (by omega) h9.2.2.1 h9.2.2.2.1 h9.2.2.2.2); (exact False.elim (by have := h9.1; omega)))⟩
    · skip
      refine qr_bipush 38 rfl (by decide) rfl ?_
      refine qr_iload_n 39 rfl rfl rfl ?_
      refine qr_isub 40 rfl rfl ?_
      have hw20 : σ9 16 15 = 0 := (congrFun (congrFun e10 16) 15).trans rfl
      refine qr_retI rfl rfl (by decide) (by decide) ?_
      exact ⟨_, _, _, _, rfl, hI11, (qFr_up (by decide) (by decide) hF12), ((-100) - v2), rfl, by omega, Or.inr ⟨by omega, by omega, Or.inr ⟨by omega, fun N => by rcases hcr with h9 | h9; (exact False.elim (by have := h9.1; omega)); (exact ⟨by have := (h9.2 N).1; omega, (h9.2 N).2⟩)⟩⟩, (qCW_f82 hF12 (by omega))⟩
  · skip
    refine qr_iload_n 5 rfl rfl rfl ?_
    refine qr_iconst 6 rfl rfl ?_
    refine qr_icmp_eq 11 9 rfl rfl rfl r1 (by decide) (fun h21 => ?_) (fun h21 => ?_)
    · skip
      refine qr_aload_n 12 rfl rfl rfl ?_
      refine qr_get 15 rfl rfl rfl (by decide) rfl ?_
      refine qr_aload_n 16 rfl rfl rfl ?_
      refine qr_get 19 rfl rfl rfl (by decide) rfl ?_
      refine qr_aload_n 20 rfl rfl rfl ?_
      refine qr_get 23 rfl rfl rfl (by decide) rfl ?_
      refine qr_callN 26 rfl rfl rfl (sf_86_82_81x (d := d + 0) hI hz16_15 p0) ?_
      rintro _ _ ⟨σ24, α25, rfl, hI26, hG27, v22, rfl, hv22, hx23⟩
      have hF28 : qFr [(16, 15), (82, 3), (82, 4), (82, 5), (82, 6), (82, 7)] [83, 84] σ α σ24 α25 := qFr_t hF0 hG27 (by decide) (by decide)
      show qr_W (qe L xs vb) (d + 57) qx_e85 _ (26, _, [.int (qz v22)], qw σ24 α25 κ 82, 0, 0)
      have hcr : qRt (σ 16 15) (α 81) _ _ _ _ := hx23
      refine qr_istore_n _ 27 rfl (by decide) rfl rfl ?_
      refine qr_aload_n 28 rfl rfl rfl ?_
      refine qr_iconst 29 rfl rfl ?_
      refine qr_put 32 rfl (by decide) rfl (Nat.le_of_ble_eq_true rfl) (Nat.le_of_ble_eq_true rfl) (Or.inl rfl) (qr_fitI rfl _) rfl ?_
      refine qy_wS (qw_s σ24 16 15 0) rfl (fun σ29 e30 => ?_)
      have hI31 : qI σ29 α25 κ 82 := by rw [e30]; exact qI_s hI26 16 15 rfl (show 0 ≤ 0 ∧ 0 ≤ 120 by omega)
      have hF32 : qFr [(16, 15), (82, 3), (82, 4), (82, 5), (82, 6), (82, 7)] [83, 84] σ α σ29 α25 := by rw [e30]; exact qFr_s hF28 16 15 _ (by decide)
      refine qr_iload_n 33 rfl rfl rfl ?_
      refine qr_if_lt 41 36 rfl rfl rfl (qrg hv22 (by decide) (by decide)) (fun h33 => ?_) (fun h33 => ?_)
      · skip
        refine qr_aload_n 42 rfl rfl rfl ?_
        refine qr_get 45 rfl rfl rfl (by decide) rfl ?_
        refine qr_iload_n 46 rfl rfl rfl ?_
        obtain ⟨c34, hc35, hq36⟩ := qI_k hI31 (y := x1) (by omega)
        refine qr_aaload 47 rfl (by decide) rfl (by omega) (by decide) hc35 rfl ?_
        rcases hq36 with rfl | rfl | rfl
        · skip
          refine qr_astore_n _ 48 rfl (by decide) rfl rfl ?_
          refine qr_aload_n 49 rfl rfl rfl ?_
          refine qr_get 52 rfl rfl rfl (by decide) rfl ?_
          refine qr_iload_n 53 rfl rfl rfl ?_
          refine qr_aload_n 54 rfl rfl rfl ?_
          refine qr_get 57 rfl rfl rfl (by decide) rfl ?_
          refine qr_aastore 58 rfl (by decide) (by decide) rfl rfl (by omega) (by decide) rfl ?_
          show qr_W (qe L xs vb) (d + 57) qx_e85 _ (58, _, [], qw σ29 α25 (va_up κ (x1 : Int).toNat (some 82)) 82, 0, 0)
          refine qr_aload_n 59 rfl rfl rfl ?_
          refine qr_aload_n 60 rfl rfl rfl ?_
          refine qr_put 63 rfl (by decide) rfl (Nat.le_of_ble_eq_true rfl) (Nat.le_of_ble_eq_true rfl) (Or.inl rfl) (qr_fitR (Or.inl ⟨_, rfl⟩) _) rfl ?_
          show qr_W (qe L xs vb) (d + 57) qx_e85 _ (63, _, [], qw σ29 α25 (va_up κ (x1 : Int).toNat (some 82)) 50, 0, 0)
          refine qr_iconst 64 rfl rfl ?_
          have hw37 : σ29 16 15 = 0 := (congrFun (congrFun e30 16) 15).trans rfl
          refine qr_retI rfl rfl (by decide) (by decide) ?_
          exact ⟨_, _, _, _, rfl, qI_sw hI31 (x1 : Int).toNat 50 (Or.inl rfl), (qFr_up (by decide) (by decide) hF32), 1, rfl, by omega, Or.inr ⟨by omega, by omega, Or.inl ⟨by omega, fun N => by rcases hcr with h9 | h9; (exact h9.2.1 N); (exact False.elim (by have := h9.1; omega))⟩⟩, (by rcases (show qRt (σ 16 15) (α 81) _ (σ29 82 5) (σ29 82 6) (α25 84) from by rw [e30]; exact hcr) with h9 | h9; (exact qCW_s82 hF32 (by omega) hc35 (by omega) h9.2.2.1 h9.2.2.2.1 h9.2.2.2.2); (exact False.elim (by have := h9.1; omega)))⟩
        · skip
          refine qr_astore_n _ 48 rfl (by decide) rfl rfl ?_
          refine qr_aload_n 49 rfl rfl rfl ?_
          refine qr_get 52 rfl rfl rfl (by decide) rfl ?_
          refine qr_iload_n 53 rfl rfl rfl ?_
          refine qr_aload_n 54 rfl rfl rfl ?_
          refine qr_get 57 rfl rfl rfl (by decide) rfl ?_
          refine qr_aastore 58 rfl (by decide) (by decide) rfl rfl (by omega) (by decide) rfl ?_
          show qr_W (qe L xs vb) (d + 57) qx_e85 _ (58, _, [], qw σ29 α25 (va_up κ (x1 : Int).toNat (some 82)) 82, 0, 0)
          refine qr_aload_n 59 rfl rfl rfl ?_
          refine qr_aload_n 60 rfl rfl rfl ?_
          refine qr_put 63 rfl (by decide) rfl (Nat.le_of_ble_eq_true rfl) (Nat.le_of_ble_eq_true rfl) (Or.inl rfl) (qr_fitR (Or.inl ⟨_, rfl⟩) _) rfl ?_
          show qr_W (qe L xs vb) (d + 57) qx_e85 _ (63, _, [], qw σ29 α25 (va_up κ (x1 : Int).toNat (some 82)) 54, 0, 0)
          refine qr_iconst 64 rfl rfl ?_
          have hw38 : σ29 16 15 = 0 := (congrFun (congrFun e30 16) 15).trans rfl
          refine qr_retI rfl rfl (by decide) (by decide) ?_
          exact ⟨_, _, _, _, rfl, qI_sw hI31 (x1 : Int).toNat 54 (Or.inr (Or.inl rfl)), (qFr_up (by decide) (by decide) hF32), 1, rfl, by omega, Or.inr ⟨by omega, by omega, Or.inl ⟨by omega, fun N => by rcases hcr with h9 | h9; (exact h9.2.1 N); (exact False.elim (by have := h9.1; omega))⟩⟩, (by rcases (show qRt (σ 16 15) (α 81) _ (σ29 82 5) (σ29 82 6) (α25 84) from by rw [e30]; exact hcr) with h9 | h9; (exact qCW_s82 hF32 (by omega) hc35 (by omega) h9.2.2.1 h9.2.2.2.1 h9.2.2.2.2); (exact False.elim (by have := h9.1; omega)))⟩
        · skip
          refine qr_astore_n _ 48 rfl (by decide) rfl rfl ?_
          refine qr_aload_n 49 rfl rfl rfl ?_
          refine qr_get 52 rfl rfl rfl (by decide) rfl ?_
          refine qr_iload_n 53 rfl rfl rfl ?_
          refine qr_aload_n 54 rfl rfl rfl ?_
          refine qr_get 57 rfl rfl rfl (by decide) rfl ?_
          refine qr_aastore 58 rfl (by decide) (by decide) rfl rfl (by omega) (by decide) rfl ?_
          show qr_W (qe L xs vb) (d + 57) qx_e85 _ (58, _, [], qw σ29 α25 (va_up κ (x1 : Int).toNat (some 82)) 82, 0, 0)
          refine qr_aload_n 59 rfl rfl rfl ?_
          refine qr_aload_n 60 rfl rfl rfl ?_
          refine qr_put 63 rfl (by decide) rfl (Nat.le_of_ble_eq_true rfl) (Nat.le_of_ble_eq_true rfl) (Or.inl rfl) (qr_fitR (Or.inl ⟨_, rfl⟩) _) rfl ?_
          show qr_W (qe L xs vb) (d + 57) qx_e85 _ (63, _, [], qw σ29 α25 (va_up κ (x1 : Int).toNat (some 82)) 82, 0, 0)
          refine qr_iconst 64 rfl rfl ?_
          have hw39 : σ29 16 15 = 0 := (congrFun (congrFun e30 16) 15).trans rfl
          refine qr_retI rfl rfl (by decide) (by decide) ?_
          exact ⟨_, _, _, _, rfl, qI_sw hI31 (x1 : Int).toNat 82 (Or.inr (Or.inr rfl)), (qFr_up (by decide) (by decide) hF32), 1, rfl, by omega, Or.inr ⟨by omega, by omega, Or.inl ⟨by omega, fun N => by rcases hcr with h9 | h9; (exact h9.2.1 N); (exact False.elim (by have := h9.1; omega))⟩⟩, (by rcases (show qRt (σ 16 15) (α 81) _ (σ29 82 5) (σ29 82 6) (α25 84) from by rw [e30]; exact hcr) with h9 | h9; (exact qCW_s82 hF32 (by omega) hc35 (by omega) h9.2.2.1 h9.2.2.2.1 h9.2.2.2.2); (exact False.elim (by have := h9.1; omega)))⟩
      · skip
        refine qr_bipush 38 rfl (by decide) rfl ?_
        refine qr_iload_n 39 rfl rfl rfl ?_
        refine qr_isub 40 rfl rfl ?_
        have hw40 : σ29 16 15 = 0 := (congrFun (congrFun e30 16) 15).trans rfl
        refine qr_retI rfl rfl (by decide) (by decide) ?_
        exact ⟨_, _, _, _, rfl, hI31, (qFr_up (by decide) (by decide) hF32), ((-100) - v22), rfl, by omega, Or.inr ⟨by omega, by omega, Or.inr ⟨by omega, fun N => by rcases hcr with h9 | h9; (exact False.elim (by have := h9.1; omega)); (exact ⟨by have := (h9.2 N).1; omega, (h9.2 N).2⟩)⟩⟩, (qCW_f82 hF32 (by omega))⟩
    · skip
      refine qr_iconst 10 rfl rfl ?_
      have hw41 : σ 16 15 = (σ 16 15) := rfl
      refine qr_retI rfl rfl (by decide) (by decide) ?_
      exact ⟨_, _, _, _, rfl, hI, (qFr_up (by decide) (by decide) hF0), (-1), rfl, by omega, Or.inl ⟨by omega, by omega, by omega⟩, (qCW_id (by omega))⟩

set_option maxHeartbeats 4000000 in
theorem sf_85_16w {L : Nat} {xs : Nat → Int} {vb : Bool} {d : Nat} {σ α : Nat → Nat → Int} {κ : Nat → Option Nat} {ρ : Nat} {x1 : Int} (hI : qI σ α κ ρ) (r1 : (-2147483648) ≤ x1 ∧ x1 ≤ 2147483647) (p0 : ∀ j : Nat, (j : Int) < σ 16 15 → 0 ≤ α 81 j ∧ α 81 j ≤ 255) : qm_T (qe L xs vb) (d + 58) 85 [.ref 16, .int (qz x1)] (qw σ α κ ρ) (fun r w' => ∃ σ' α' κ' ρ', w' = qw σ' α' κ' ρ' ∧ qI σ' α' κ' ρ' ∧ qFr [(16, 15), (50, 3), (50, 4), (50, 5), (50, 6), (50, 7), (54, 3), (54, 4), (54, 5), (54, 6), (54, 7), (82, 3), (82, 4), (82, 5), (82, 6), (82, 7)] [51, 52, 55, 56, 83, 84] σ α σ' α' ∧ ∃ v : Int, r = some (.int (qz v)) ∧ (-2147483648 ≤ v ∧ v ≤ 2147483647) ∧ ((v = -1 ∧ ¬ (x1 = 0 ∨ x1 = 1) ∧ σ' 16 15 = σ 16 15) ∨ ((x1 = 0 ∨ x1 = 1) ∧ σ' 16 15 = 0 ∧ ((v = 1 ∧ ∀ N, (qtx_W (α 81) (σ 16 15) N).2.2 = 0) ∨ (v ≤ -100 ∧ ∀ N, v = -100 - (qtx_W (α 81) (σ 16 15) N).2.1 ∧ (qtx_W (α 81) (σ 16 15) N).2.2 = 1)))) ∧ qCW σ α κ ρ σ' α' κ' ρ' x1 v (fun N => (qtx_W (α 81) (σ 16 15) N).1)) := by
  have h := hI.2.2.1.2.2
  unfold qI_c at h
  rcases h with rfl | rfl | rfl
  · exact sf_85_16w50 hI r1 p0
  · exact sf_85_16w54 hI r1 p0
  · exact sf_85_16w82 hI r1 p0

set_option maxHeartbeats 4000000 in
set_option maxRecDepth 20000 in
/-- OneRoofModel.custom -/
theorem sf_212_86w {L : Nat} {xs : Nat → Int} {vb : Bool} {d : Nat} {σ α : Nat → Nat → Int} {κ : Nat → Option Nat} {ρ : Nat} {x1 : Int} (hI : qI σ α κ ρ) (r1 : (-2147483648) ≤ x1 ∧ x1 ≤ 2147483647) : qm_T (qe L xs vb) (d + 46) 212 [.ref 86, .int (qz x1)] (qw σ α κ ρ) (fun r w' => ∃ σ' α', w' = qw σ' α' κ ρ ∧ qI σ' α' κ ρ ∧ qFr [(86, 32), (86, 35), (86, 36), (86, 37), (86, 38), (86, 39)] [107, 108] σ α σ' α' ∧ ∃ v : Int, r = some (.int (qz v)) ∧ ((-2147483648) ≤ v ∧ v ≤ 2147483647) ∧ ((v = -1 ∧ ¬ (x1 = 0 ∨ x1 = 1) ∧ σ' 86 32 = σ 86 32 ∧ α' 107 = α 107 ∧ α' 108 = α 108) ∨ ((x1 = 0 ∨ x1 = 1) ∧ σ' 86 32 = 0 ∧ ((v = 1 ∧ (qtx_W (α 106) (σ 86 32) (α 109)).2.2 = 0 ∧ α' 107 = qtp (α 107) (α 106) (120 * x1) (σ 86 32 : Int).toNat ∧ α' 108 = qzu (α 108) (x1 : Int).toNat (σ 86 32)) ∨ (v = -100 - (qtx_W (α 106) (σ 86 32) (α 109)).2.1 ∧ (qtx_W (α 106) (σ 86 32) (α 109)).2.2 = 1 ∧ α' 107 = α 107 ∧ α' 108 = α 108))))) := by
  refine qr_start (d := d + 45) qv_e212 (Nat.le_of_ble_eq_true rfl) ?_
  show qr_W (qe L xs vb) (d + 45) qx_e212 _ (0, [(0, .ref 86), (1, .int (qz x1))], [], _, 0, 0)
  have hF0 := qFr_rf [(86, 32), (86, 35), (86, 36), (86, 37), (86, 38), (86, 39)] [107, 108] σ α
  have hz86_32 : 0 ≤ σ 86 32 ∧ σ 86 32 ≤ 120 := hI.1 86 32
  refine qr_iload_n 1 rfl rfl rfl ?_
  refine qr_i2l 2 rfl r1 rfl ?_
  refine qr_lconst 3 rfl rfl ?_
  refine qy_vl 0 rfl ?_
  refine qr_lconst 4 rfl rfl ?_
  refine qy_vl 1 rfl ?_
  refine qr_callN 7 rfl rfl rfl (sf_176 (d := d + 44) hI (qrg r1 (by decide) (by decide)) (by decide) (by decide)) ?_
  rintro _ _ ⟨rfl, v1, rfl, hv1, hp2⟩
  show qr_W (qe L xs vb) (d + 45) qx_e212 _ (7, _, [.int (qz v1)], qw σ α κ ρ, 0, 0)
  refine qr_if_ne 12 10 rfl rfl rfl (qrg hv1 (by decide) (by decide)) (fun h3 => ?_) (fun h3 => ?_)
  · skip
    refine qr_aload_n 13 rfl rfl rfl ?_
    refine qr_iconst 14 rfl rfl ?_
    refine qr_aload_n 15 rfl rfl rfl ?_
    refine qr_get 18 rfl rfl rfl (by decide) rfl ?_
    refine qr_callN 21 rfl rfl rfl (sf_213_86x (d := d + 0) hI (by decide) hz86_32) ?_
    rintro _ _ ⟨σ7, rfl, hI8, hG9, v4, rfl, hv4, hp5, hx6⟩
    have hF10 : qFr [(86, 32), (86, 35), (86, 36), (86, 37), (86, 38), (86, 39)] [107, 108] σ α σ7 α := qFr_t hF0 hG9 (by decide) (by decide)
    have hs11 : (-1) ≤ σ7 86 38 ∧ σ7 86 38 ≤ 120 := hI8.1 86 38
    show qr_W (qe L xs vb) (d + 45) qx_e212 _ (21, _, [.int (qz v4)], qw σ7 α κ ρ, 0, 0)
    refine qr_istore_n _ 22 rfl (by decide) rfl rfl ?_
    refine qr_aload_n 23 rfl rfl rfl ?_
    refine qr_get 26 rfl rfl rfl (by decide) rfl ?_
    refine qy_v (σ 86 32) ((hG9.1 86 32 (by decide)).trans rfl) ?_
    refine qr_istore_n _ 27 rfl (by decide) rfl rfl ?_
    refine qr_aload_n 28 rfl rfl rfl ?_
    refine qr_iconst 29 rfl rfl ?_
    refine qr_put 32 rfl (by decide) rfl (Nat.le_of_ble_eq_true rfl) (Nat.le_of_ble_eq_true rfl) (Or.inl rfl) (qr_fitI rfl _) rfl ?_
    refine qy_wS (qw_s σ7 86 32 0) rfl (fun σ12 e13 => ?_)
    have hI14 : qI σ12 α κ ρ := by rw [e13]; exact qI_s hI8 86 32 rfl (show 0 ≤ 0 ∧ 0 ≤ 120 by omega)
    have hF15 : qFr [(86, 32), (86, 35), (86, 36), (86, 37), (86, 38), (86, 39)] [107, 108] σ α σ12 α := by rw [e13]; exact qFr_s hF10 86 32 _ (by decide)
    refine qr_aload_n 33 rfl rfl rfl ?_
    refine qr_get 36 rfl rfl rfl (by decide) rfl ?_
    refine qy_v (σ7 86 38) ((congrFun (congrFun e13 86) 38).trans rfl) ?_
    refine qr_if_lt 47 39 rfl rfl rfl (by omega) (fun h16 => ?_) (fun h16 => ?_)
    · skip
      refine qr_iconst 48 rfl rfl ?_
      refine qr_istore _ 50 rfl (by decide) rfl rfl ?_
      have hL527 : ∀ (n : Nat) (ls : qm_L) (u517 : Int) (α519 : Nat → Nat → Int), 120 - u517 < (n : Int) → qm_get ls 0 = some (.ref 86) → qm_get ls 1 = some (.int (qz x1)) → qm_get ls 3 = some (.int (qz (σ 86 32))) → qm_get ls 4 = some (.int (qz u517)) → (0 ≤ u517 ∧ u517 ≤ 120) → qI σ12 α519 κ ρ → qFr [(86, 32), (86, 35), (86, 36), (86, 37), (86, 38), (86, 39)] [107, 108] σ α σ12 α519 → α519 106 = (α 106) → α519 108 = (α 108) → α519 107 = (qtp (α 107) (α 106) (120 * x1) (u517 : Int).toNat) → u517 ≤ σ 86 32 → qr_W (qe L xs vb) (d + 45) qx_e212 (fun r w' => ∃ σ' α', w' = qw σ' α' κ ρ ∧ qI σ' α' κ ρ ∧ qFr [(86, 32), (86, 35), (86, 36), (86, 37), (86, 38), (86, 39)] [107, 108] σ α σ' α' ∧ ∃ v : Int, r = some (.int (qz v)) ∧ ((-2147483648) ≤ v ∧ v ≤ 2147483647) ∧ ((v = -1 ∧ ¬ (x1 = 0 ∨ x1 = 1) ∧ σ' 86 32 = σ 86 32 ∧ α' 107 = α 107 ∧ α' 108 = α 108) ∨ ((x1 = 0 ∨ x1 = 1) ∧ σ' 86 32 = 0 ∧ ((v = 1 ∧ (qtx_W (α 106) (σ 86 32) (α 109)).2.2 = 0 ∧ α' 107 = qtp (α 107) (α 106) (120 * x1) (σ 86 32 : Int).toNat ∧ α' 108 = qzu (α 108) (x1 : Int).toNat (σ 86 32)) ∨ (v = -100 - (qtx_W (α 106) (σ 86 32) (α 109)).2.1 ∧ (qtx_W (α 106) (σ 86 32) (α 109)).2.2 = 1 ∧ α' 107 = α 107 ∧ α' 108 = α 108))))) (50, ls, [], qw σ12 α519 κ ρ, 0, 0) := by
        intro n
        induction n with
        | zero => intro ls u517 α519 hm g513 g514 g515 g516 hf524 hI520 hF521 hk522 hk523 hx525 hx526; exact False.elim (by omega)
        | succ n ih528 =>
          intro ls u517 α519 hm g513 g514 g515 g516 hf524 hI520 hF521 hk522 hk523 hx525 hx526
          refine qr_iload 52 rfl g516 rfl ?_
          refine qr_iload_n 53 rfl g515 rfl ?_
          refine qr_icmp_ge 81 56 rfl rfl rfl (qrg hf524 (by decide) (by decide)) (qrg hz86_32 (by decide) (by decide)) (fun h529 => ?_) (fun h529 => ?_)
          · skip
            refine qr_aload_n 82 rfl g513 rfl ?_
            refine qr_get 85 rfl rfl rfl (by decide) rfl ?_
            refine qr_iload_n 86 rfl g514 rfl ?_
            refine qr_iload_n 87 rfl g515 rfl ?_
            refine qr_iastore 88 rfl (by decide) rfl (by omega) (by decide) rfl ?_
            refine qy_wA (qw_r α519 108 (qzu (α519 108) (x1 : Int).toNat (σ 86 32))) rfl (fun α530 e531 => ?_)
            have hI532 : qI σ12 α530 κ ρ := by rw [e531]; exact qI_r hI520 108 _ rfl (show (-1) ≤ (σ 86 32) ∧ (σ 86 32) ≤ 120 by omega)
            have hF533 : qFr [(86, 32), (86, 35), (86, 36), (86, 37), (86, 38), (86, 39)] [107, 108] σ α σ12 α530 := by rw [e531]; exact qFr_r hF521 108 _ (by decide)
            refine qr_iconst 89 rfl rfl ?_
            refine qr_retI rfl rfl (by decide) (by decide) ?_
            exact ⟨_, _, rfl, hI532, hF533, 1, rfl, (by decide), (by have hw : σ12 86 32 = 0 := (congrFun (congrFun e13 86) 32).trans rfl; have hq := hx6; rw [show qtT (α 106) (α 107) (-1) = α 106 from if_pos (by decide)] at hq; unfold qReW at hq; exact Or.inr ⟨by omega, by omega, Or.inl ⟨by omega, by omega, (((congrFun e531 107).trans ((qw_r_ne (by decide)).trans hx525))).trans (by rw [show (u517 : Int).toNat = (σ 86 32 : Int).toNat by omega]), (((congrFun e531 108).trans (qw_r_eq.trans (congrArg (fun f => qzu f (x1 : Int).toNat (σ 86 32)) hk523)))).trans (by rw [show (σ 86 32) = σ 86 32 by omega])⟩⟩)⟩
          · skip
            refine qr_aload_n 57 rfl g513 rfl ?_
            refine qr_get 60 rfl rfl rfl (by decide) rfl ?_
            refine qr_bipush 62 rfl (by decide) rfl ?_
            refine qr_iload_n 63 rfl g514 rfl ?_
            refine qr_imul 64 rfl rfl ?_
            refine qr_iload 66 rfl g516 rfl ?_
            refine qr_iadd 67 rfl rfl ?_
            refine qr_aload_n 68 rfl g513 rfl ?_
            refine qr_get 71 rfl rfl rfl (by decide) rfl ?_
            refine qr_iload 73 rfl g516 rfl ?_
            refine qr_iaload 74 rfl rfl (by omega) (by decide) rfl ?_
            refine qr_topI (fun v534 hv534 => ?_)
            have hs535 : (-2147483648) ≤ v534 ∧ v534 ≤ 2147483647 := by rw [hv534]; exact hI520.2.1 106 _ (show _ < 120 by omega)
            have hrv534 : v534 = (α 106) (u517 : Int).toNat := hv534.trans (congrFun hk522 _)
            refine qr_iastore 75 rfl (by decide) rfl (by omega) (by decide) rfl ?_
            refine qy_wA (qw_r α519 107 (qzu (α519 107) (((120 * x1) + u517) : Int).toNat v534)) rfl (fun α536 e537 => ?_)
            have hI538 : qI σ12 α536 κ ρ := by rw [e537]; exact qI_r hI520 107 _ rfl (show (-2147483648) ≤ v534 ∧ v534 ≤ 2147483647 by omega)
            have hF539 : qFr [(86, 32), (86, 35), (86, 36), (86, 37), (86, 38), (86, 39)] [107, 108] σ α σ12 α536 := by rw [e537]; exact qFr_r hF521 107 _ (by decide)
            refine qr_iinc _ 78 rfl g516 (by decide) rfl rfl ?_
            refine qr_goto 50 rfl rfl ?_
            exact ih528 _ (u517 + 1) α536 (by omega) (qm_gk g513 (by decide) (Or.inl (by decide))) (qm_gk g514 (by decide) (Or.inl (by decide))) (qm_gk g515 (by decide) (Or.inr rfl)) (qm_ge _ _ _) (by omega) hI538 hF539 ((congrFun e537 106).trans ((qw_r_ne (by decide)).trans hk522)) ((congrFun e537 108).trans ((qw_r_ne (by decide)).trans hk523)) (((congrFun e537 107).trans (qw_r_eq.trans (congrArg (fun f => qzu f (((120 * x1) + u517) : Int).toNat v534) hx525))).trans (qtp_s (by omega) (by omega) hrv534)) (by omega)
      exact hL527 ((120 - 0 + 1 : Int)).toNat _ 0 α (by omega) rfl rfl rfl rfl (by decide) hI14 hF15 rfl rfl rfl (by omega)
    · skip
      refine qr_bipush 41 rfl (by decide) rfl ?_
      refine qr_aload_n 42 rfl rfl rfl ?_
      refine qr_get 45 rfl rfl rfl (by decide) rfl ?_
      refine qy_v (σ7 86 38) ((congrFun (congrFun e13 86) 38).trans rfl) ?_
      refine qr_isub 46 rfl rfl ?_
      refine qr_retI rfl rfl (by decide) (by decide) ?_
      exact ⟨_, _, rfl, hI14, hF15, ((-100) - (σ7 86 38)), rfl, (by omega), (by have hw : σ12 86 32 = 0 := (congrFun (congrFun e13 86) 32).trans rfl; have hq := hx6; rw [show qtT (α 106) (α 107) (-1) = α 106 from if_pos (by decide)] at hq; unfold qReW at hq; exact Or.inr ⟨by omega, by omega, Or.inr ⟨by omega, by omega, rfl, rfl⟩⟩)⟩
  · skip
    refine qr_iconst 11 rfl rfl ?_
    refine qr_retI rfl rfl (by decide) (by decide) ?_
    exact ⟨_, _, rfl, hI, hF0, (-1), rfl, (by decide), (Or.inl ⟨by omega, by omega, by omega, rfl, rfl⟩)⟩

theorem qPW_dep {σ α : Nat → Nat → Int} {κ : Nat → Option Nat} {u : Nat} {f : (Nat → Int) → Int} (hc : ∃ c : Nat, κ u = some c ∧ (c = 50 ∨ c = 54 ∨ c = 82)) (h : qPW σ α κ u f) : ∀ N N' : Nat → Int, (∀ k : Nat, k < 9 → N k = N' k) → f N = f N' := fun N N' hn => by
  obtain ⟨c, h1, h2⟩ := hc
  obtain ⟨gi, _, hD, _⟩ := h c h1 h2
  exact hD N N' (fun k h0 h9 _ => hn k.toNat (by omega))
theorem qPG_b {σ α : Nat → Nat → Int} {κ : Nat → Option Nat} {ρ : Nat} (hI : qI σ α κ ρ) : ∀ u : Nat, u < 2 → α 108 u ≤ 120 := fun u hu => by
  have h : -1 ≤ α 108 u ∧ α 108 u ≤ 120 := hI.2.1 108 u hu
  exact h.2
theorem qPG_n {σ α α' : Nat → Nat → Int} {T : Nat → Int} {n x : Int} (hn : 0 ≤ n ∧ n ≤ 120) (h7 : α' 107 = qtp (α 107) T (120 * x) (n : Int).toNat) (h8 : α' 108 = qzu (α 108) (x : Int).toNat n) (hx : x = 0 ∨ x = 1) (hz : ∀ N, (qtx_W T n N).2.2 = 0) (hd : ∀ N N' : Nat → Int, (∀ k : Nat, k < 9 → N k = N' k) → (qtx_W T n N).1 = (qtx_W T n N').1) : qPG σ α' x (fun N => (qtx_W T n N).1) := by
  have e8 : α' 108 (x : Int).toNat = n := by
    rw [h8]
    exact if_pos rfl
  have e7 : ∀ j : Nat, (j : Int) < n → (fun j => α' 107 ((120 * x).toNat + j)) j = T j := fun j hj => by
    show α' 107 ((120 * x).toNat + j) = T j
    rw [h7]
    exact qtp_in (by omega) _ j (by omega)
  unfold qPG
  rw [e8]
  refine ⟨fun N => ⟨fun _ => ?_, fun h => absurd h (by omega)⟩, hd⟩
  rw [qtx_W_cg e7 N]
  exact ⟨hz N, rfl⟩
theorem qPG_o {σ α α' : Nat → Nat → Int} {T : Nat → Int} {n x u : Int} {g : (Nat → Int) → Int} (hn : 0 ≤ n ∧ n ≤ 120) (h7 : α' 107 = qtp (α 107) T (120 * x) (n : Int).toNat) (h8 : α' 108 = qzu (α 108) (x : Int).toNat n) (hx : (x = 0 ∧ u = 1) ∨ (x = 1 ∧ u = 0)) (hb : ∀ u : Nat, u < 2 → α 108 u ≤ 120) (h : qPG σ α u g) : qPG σ α' u g := by
  have e8 : α' 108 (u : Int).toNat = α 108 (u : Int).toNat := by
    rw [h8]
    exact if_neg (by omega)
  have b8 := hb (u : Int).toNat (by omega)
  have e7 : ∀ j : Nat, (j : Int) < α 108 (u : Int).toNat → (fun j => α' 107 ((120 * u).toNat + j)) j = (fun j => α 107 ((120 * u).toNat + j)) j := fun j hj => by
    show α' 107 ((120 * u).toNat + j) = α 107 ((120 * u).toNat + j)
    rw [h7]
    exact qtp_out _ (fun i hi => by omega)
  unfold qPG at h ⊢
  rw [e8]
  refine ⟨fun N => ?_, h.2⟩
  rw [qtx_W_cg e7 N]
  exact h.1 N
set_option maxHeartbeats 4000000 in
theorem ro_custom {σ α σ1 α1 σ2 α2 : Nat → Nat → Int} {κ κ1 : Nat → Option Nat} {ρ ρ1 : Nat} {x1 v1 v2 : Int} (hI : qI σ α κ ρ) (hI1 : qI σ1 α1 κ1 ρ1) (he : σ 16 15 = σ 86 32) (hT : qTp α) (hC : qRC σ α κ ρ) (hG1 : qFr [(16, 15), (50, 3), (50, 4), (50, 5), (50, 6), (50, 7), (54, 3), (54, 4), (54, 5), (54, 6), (54, 7), (82, 3), (82, 4), (82, 5), (82, 6), (82, 7)] [51, 52, 55, 56, 83, 84] σ α σ1 α1) (hG2 : qFr [(86, 32), (86, 35), (86, 36), (86, 37), (86, 38), (86, 39)] [107, 108] σ1 α1 σ2 α2) (hx : ((v1 = -1 ∧ ¬ (x1 = 0 ∨ x1 = 1) ∧ σ1 16 15 = σ 16 15) ∨ ((x1 = 0 ∨ x1 = 1) ∧ σ1 16 15 = 0 ∧ ((v1 = 1 ∧ ∀ N, (qtx_W (α 81) (σ 16 15) N).2.2 = 0) ∨ (v1 ≤ -100 ∧ ∀ N, v1 = -100 - (qtx_W (α 81) (σ 16 15) N).2.1 ∧ (qtx_W (α 81) (σ 16 15) N).2.2 = 1))))) (hw : qCW σ α κ ρ σ1 α1 κ1 ρ1 x1 v1 (fun N => (qtx_W (α 81) (σ 16 15) N).1)) (hy : ((v2 = -1 ∧ ¬ (x1 = 0 ∨ x1 = 1) ∧ σ2 86 32 = σ1 86 32 ∧ α2 107 = α1 107 ∧ α2 108 = α1 108) ∨ ((x1 = 0 ∨ x1 = 1) ∧ σ2 86 32 = 0 ∧ ((v2 = 1 ∧ (qtx_W (α1 106) (σ1 86 32) (α1 109)).2.2 = 0 ∧ α2 107 = qtp (α1 107) (α1 106) (120 * x1) (σ1 86 32 : Int).toNat ∧ α2 108 = qzu (α1 108) (x1 : Int).toNat (σ1 86 32)) ∨ (v2 = -100 - (qtx_W (α1 106) (σ1 86 32) (α1 109)).2.1 ∧ (qtx_W (α1 106) (σ1 86 32) (α1 109)).2.2 = 1 ∧ α2 107 = α1 107 ∧ α2 108 = α1 108))))) : v1 = v2 ∧ σ2 16 15 = σ2 86 32 ∧ qRC σ2 α2 κ1 ρ1 := by
  have c32 := hG1.1 86 32 (by decide)
  have c106 := hG1.2 106 (by decide)
  have c107 := hG1.2 107 (by decide)
  have c108 := hG1.2 108 (by decide)
  have d15 := hG2.1 16 15 (by decide)
  have b32 : 0 ≤ σ 86 32 ∧ σ 86 32 ≤ 120 := hI.1 86 32
  rw [c32, c106, c107, c108, ← he, ← hT.1] at hy
  obtain ⟨hd, ⟨f0, g0, a0, b0, e0⟩, ⟨f1, g1, a1, b1, e1⟩⟩ := hC
  obtain ⟨hd2, hw2⟩ := hw hd
  have hw3 := hw2 f0 f1 a0 a1
  have up : ∀ {u : Nat} {f : (Nat → Int) → Int}, qPW σ1 α1 κ1 u f → qPW σ2 α2 κ1 u f := fun h => qPW_fr hG2 (by decide) (by decide) h
  have same : ¬ v1 = 1 → α2 107 = α 107 → α2 108 = α 108 → qRC σ2 α2 κ1 ρ1 := fun hv h7 h8 => by
    have h9 := hw3.1 hv
    refine ⟨hd2, ⟨f0, g0, up h9.1, ?_, e0⟩, ⟨f1, g1, up h9.2, ?_, e1⟩⟩
    · unfold qPG
      rw [h7, h8]
      exact b0
    · unfold qPG
      rw [h7, h8]
      exact b1
  rcases hx with ⟨x0, xa, xb⟩ | ⟨x0, xa, ⟨xb, xc⟩ | ⟨xb, xc⟩⟩
  · rcases hy with ⟨y0, ya, yb, yc, yd⟩ | ⟨y0, ya, yb⟩
    · exact ⟨by omega, by omega, same (by omega) yc yd⟩
    · exact absurd y0 xa
  · have h1 := xc (α1 109)
    rcases hy with ⟨y0, ya, yb⟩ | ⟨y0, ya, ⟨yb, yc, y7, y8⟩ | ⟨yb, yc, y7, y8⟩⟩
    · exact absurd x0 ya
    · refine ⟨by omega, by omega, ?_⟩
      have h9 := hw3.2 xb
      rcases x0 with rfl | rfl
      · have h10 := h9.1 rfl
        exact ⟨hd2, ⟨_, _, up h10.1, qPG_n (by omega) y7 y8 (Or.inl rfl) xc (qPW_dep hI1.2.2.1.1 h10.1), qAg_rf _⟩, ⟨f1, g1, up h10.2, qPG_o (x := 0) (u := 1) (by omega) y7 y8 (Or.inl ⟨rfl, rfl⟩) (qPG_b hI) b1, e1⟩⟩
      · have h10 := h9.2 rfl
        exact ⟨hd2, ⟨f0, g0, up h10.1, qPG_o (x := 1) (u := 0) (by omega) y7 y8 (Or.inr ⟨rfl, rfl⟩) (qPG_b hI) b0, e0⟩, ⟨_, _, up h10.2, qPG_n (by omega) y7 y8 (Or.inr rfl) xc (qPW_dep hI1.2.2.1.2.1 h10.2), qAg_rf _⟩⟩
    · omega
  · have h1 := xc (α1 109)
    rcases hy with ⟨y0, ya, yb⟩ | ⟨y0, ya, ⟨yb, yc, y7, y8⟩ | ⟨yb, yc, y7, y8⟩⟩
    · exact absurd x0 ya
    · omega
    · exact ⟨by omega, by omega, same (by omega) y7 y8⟩
end
