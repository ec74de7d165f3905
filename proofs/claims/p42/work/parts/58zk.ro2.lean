/-! each call, on both sides -/
theorem qps_ge {T : Type} {st : T → Int → Int → Int → Int → T} {f : Nat → Int} {b len i : Int} : ∀ (n : Nat) (c s : Int) (t : T), s ≤ (qps st f b len i n c s t).2.1 := by
  intro n
  induction n with
  | zero => intro c s t; rw [qps_0 rfl]; exact Int.le_refl _
  | succ n ih =>
    intro c s t
    by_cases hc : qpc f b len i c s
    · rw [qps_go hc rfl]
      exact Int.le_trans (show s ≤ s + 1 by omega) (ih _ _ _)
    · rw [qps_stop hc]
      exact Int.le_refl _
theorem qCh_kn : ∀ (l : List Int) (h : qHS), (0 ≤ h.2.2.2.2.1 ∧ h.2.2.2.2.1 ≤ 40) → qCh h → qCh (qkn l h)
  | [], _, _, hc => hc
  | x :: l, h, hd, hc => by
    have e : qkn (x :: l) h = qkn l (qbec h (192 + x) 6) := rfl
    rw [e]
    refine qCh_kn l _ ?_ (qCh_bec hd hc)
    by_cases c : h.1 (192 + x).toNat = 6
    · rw [show qbec h (192 + x) 6 = h from if_pos c]
      exact hd
    · rw [show qbec h (192 + x) 6 = _ from if_neg c]
      show 0 ≤ qdo h.2.2.2.2.1 + 1 ∧ qdo h.2.2.2.2.1 + 1 ≤ 40
      unfold qdo
      split <;> omega
theorem qtell_len {H : Int → Int → Int → Nat → Int} {B : Int → Nat → Int} {n : Nat} {W : Int → Int → Int → Int → Int → Int → Int} {N : Int} : ∀ (k : Nat) (s : qTS), s.1.length ≤ (qtell H B n W N k s).1.length
  | 0, _ => Nat.le_refl _
  | k + 1, s => by
    by_cases c : qnext W N s < 0
    · rw [show qtell H B n W N (k + 1) s = s from if_pos c]
      exact Nat.le_refl _
    · rw [show qtell H B n W N (k + 1) s = qtell H B n W N k (qland H B n s (qnext W N s)) from if_neg c]
      have h := qtell_len k (qland H B n s (qnext W N s)) (H := H) (B := B) (n := n) (W := W) (N := N)
      have hl : (qland H B n s (qnext W N s)).1.length = s.1.length + 1 := List.length_append
      omega
theorem qFINm_fr {S : List (Nat × Nat)} {R : List Nat} {σ α σ' α' : Nat → Nat → Int} (hG : qFr S R σ α σ' α') (hs : [(86, 6), (86, 11), (86, 16), (86, 22), (86, 24), (86, 41)].all (fun x => !S.contains x) = true) (hr : [87, 91, 94, 95, 97, 98, 99, 100, 102, 103, 104, 105].all (fun x => !R.contains x) = true) : qFINm σ' α' = qFINm σ α := by
  have es : ∀ a k, (a, k) ∈ [(86, 6), (86, 11), (86, 16), (86, 22), (86, 24), (86, 41)] → σ' a k = σ a k := fun a k hm => hG.1 a k (fun hn => by
    have h1 := List.all_eq_true.mp hs (a, k) hm
    rw [List.contains_iff_mem.mpr hn] at h1
    exact absurd h1 (by decide))
  have er : ∀ a, a ∈ [87, 91, 94, 95, 97, 98, 99, 100, 102, 103, 104, 105] → α' a = α a := fun a hm => hG.2 a (fun hn => by
    have h1 := List.all_eq_true.mp hr a hm
    rw [List.contains_iff_mem.mpr hn] at h1
    exact absurd h1 (by decide))
  have h1 : qHr σ' α' = qHr σ α := by
    unfold qHr
    rw [er 87 (by decide), er 91 (by decide), er 102 (by decide), er 103 (by decide), er 104 (by decide), er 105 (by decide)]
  have h2 : qBm σ' α' = qBm σ α := by
    unfold qBm
    rw [er 87 (by decide), er 102 (by decide)]
  have h3 : qNVr σ' α' = qNVr σ α := by
    unfold qNVr
    rw [es 86 6 (by decide), es 86 11 (by decide), es 86 16 (by decide), es 86 22 (by decide), es 86 24 (by decide), es 86 41 (by decide), er 87 (by decide), er 91 (by decide), er 94 (by decide), er 95 (by decide), er 97 (by decide), er 98 (by decide), er 99 (by decide), er 100 (by decide), er 102 (by decide), er 103 (by decide), er 104 (by decide), er 105 (by decide)]
  unfold qFINm
  rw [h1, h2, qWr_e h3, es 86 6 (by decide), es 86 24 (by decide)]
theorem qwF_cg {D D' : Int → Prop} {c c' : Int → Int} {w : Int} (hD : ∀ u, D u ↔ D' u) (hc : ∀ u, D u → c u = c' u) (h : qwF D c w) : qwF D' c' w := by
  rcases h with ⟨h1, h2⟩ | ⟨h1, h2⟩
  · exact Or.inl ⟨h1, fun u hu => h2 u ((hD u).mpr hu)⟩
  · refine Or.inr ⟨(hD w).mp h1, fun u hu => ?_⟩
    have h3 := (hD u).mpr hu
    rw [← hc w h1, ← hc u h3]
    exact h2 u h3
theorem ro_ch {σ α σ1 α1 σ2 α2 : Nat → Nat → Int} {s p v a w : Int} (hH : qRH σ α) (hG1 : qFr [(76, 7), (76, 8)] [20, 33, 35, 41, 77, 78, 79, 80] σ α σ1 α1) (hG2 : qFr [(86, 4), (86, 5)] [87, 88, 89, 90] σ1 α1 σ2 α2) (hx : qHq σ1 α1 (qbec (α 87, α 88, α 89, α 90, σ 86 5, σ 86 4) (qat s p) (qwd (α 87) s p v))) (ea : a = qat s p) (ew : w = qwd (α 87) s p v)
    (hy : α2 87 = (qbec (α1 87, α1 88, α1 89, α1 90, σ1 86 5, σ1 86 4) a w).1 ∧ α2 88 = (qbec (α1 87, α1 88, α1 89, α1 90, σ1 86 5, σ1 86 4) a w).2.1 ∧ α2 89 = (qbec (α1 87, α1 88, α1 89, α1 90, σ1 86 5, σ1 86 4) a w).2.2.1 ∧ α2 90 = (qbec (α1 87, α1 88, α1 89, α1 90, σ1 86 5, σ1 86 4) a w).2.2.2.1 ∧ σ2 86 5 = (qbec (α1 87, α1 88, α1 89, α1 90, σ1 86 5, σ1 86 4) a w).2.2.2.2.1 ∧ σ2 86 4 = (qbec (α1 87, α1 88, α1 89, α1 90, σ1 86 5, σ1 86 4) a w).2.2.2.2.2) : qRH σ2 α2 := by
  have e := qdd_tup hy
  rw [hG1.2 87 (by decide), hG1.2 88 (by decide), hG1.2 89 (by decide), hG1.2 90 (by decide), hG1.1 86 5 (by decide), hG1.1 86 4 (by decide), ea, ew] at e
  unfold qRH
  rw [e]
  exact ⟨qHq_fr hG2 (by decide) (by decide) hx, qCh_bec ⟨hH.1.2.2.1.1, Int.le_trans hH.1.2.2.1.2.1 hH.1.2.2.1.2.2⟩ hH.2⟩
theorem ro_cs {S1 S2 : List (Nat × Nat)} {R1 R2 : List Nat} {σ α σ1 α1 σ2 α2 : Nat → Nat → Int} (hH : qRH σ α) (hG1 : qFr S1 R1 σ α σ1 α1) (h1 : [(86, 4), (86, 5)].all (fun x => !S1.contains x) = true) (h1r : [87, 88, 89, 90].all (fun x => !R1.contains x) = true) (hG2 : qFr S2 R2 σ1 α1 σ2 α2) (h2 : [(17, 6), (27, 7), (34, 7), (76, 7), (76, 8)].all (fun x => !S2.contains x) = true) (h2r : [20, 33, 35, 38, 39, 40, 41, 77, 78, 79, 80].all (fun x => !R2.contains x) = true) (hx : qHq σ1 α1 (α 87, α 88, α 89, α 90, σ 86 5, σ 86 4)) (hy : α2 87 = α1 87 ∧ α2 88 = α1 88 ∧ α2 89 = α1 89 ∧ α2 90 = α1 90 ∧ σ2 86 5 = σ1 86 5 ∧ σ2 86 4 = σ1 86 4) : qRH σ2 α2 := by
  have es : ∀ a k, (a, k) ∈ [(86, 4), (86, 5)] → σ1 a k = σ a k := fun a k hm => hG1.1 a k (fun hn => by
    have h3 := List.all_eq_true.mp h1 (a, k) hm
    rw [List.contains_iff_mem.mpr hn] at h3
    exact absurd h3 (by decide))
  have er : ∀ a, a ∈ [87, 88, 89, 90] → α1 a = α a := fun a hm => hG1.2 a (fun hn => by
    have h3 := List.all_eq_true.mp h1r a hm
    rw [List.contains_iff_mem.mpr hn] at h3
    exact absurd h3 (by decide))
  unfold qRH
  rw [hy.1, hy.2.1, hy.2.2.1, hy.2.2.2.1, hy.2.2.2.2.1, hy.2.2.2.2.2, er 87 (by decide), er 88 (by decide), er 89 (by decide), er 90 (by decide), es 86 5 (by decide), es 86 4 (by decide)]
  exact ⟨qHq_fr hG2 h2 h2r hx, hH.2⟩

set_option maxHeartbeats 4000000 in
theorem ro_person {σ α σ1 α1 σ2 α2 : Nat → Nat → Int} {κ : Nat → Option Nat} {ρ : Nat} {x1 x2 x3 v1 v2 : Int}  (hI : qI σ α κ ρ) (hR : qR σ α) (hF : qRF σ α) (hH : qRH σ α) (hL : qRL σ α) (hG1 : qFr [(17, 6)] [18, 19, 20, 22] σ α σ1 α1) (hG2 : qFr [(86, 6), (86, 15)] [87, 91, 92] σ1 α1 σ2 α2) (hx0 : ((v1 = -1 ∧ ¬ ((x1 = -1 ∨ (0 ≤ x1 ∧ x1 < σ 17 6)) ∧ 1 ≤ x2 ∧ x2 ≤ 99 ∧ (x3 = 0 ∨ x3 = 1)) ∧ σ1 17 6 = σ 17 6 ∧ (α1 18, α1 19, α1 20, α1 22) = (α 18, α 19, α 20, α 22)) ∨ (v1 = -3 ∧ ((x1 = -1 ∨ (0 ≤ x1 ∧ x1 < σ 17 6)) ∧ 1 ≤ x2 ∧ x2 ≤ 99 ∧ (x3 = 0 ∨ x3 = 1)) ∧ 32 ≤ σ 17 6 ∧ σ1 17 6 = σ 17 6 ∧ (α1 18, α1 19, α1 20, α1 22) = (α 18, α 19, α 20, α 22)) ∨ (v1 = σ 17 6 ∧ ((x1 = -1 ∨ (0 ≤ x1 ∧ x1 < σ 17 6)) ∧ 1 ≤ x2 ∧ x2 ≤ 99 ∧ (x3 = 0 ∨ x3 = 1)) ∧ σ 17 6 < 32 ∧ σ1 17 6 = σ 17 6 + 1 ∧ (α1 18, α1 19, α1 20, α1 22) = qstc (α 18, α 19, α 20, α 22) (σ 17 6) x1 x2 x3))) (hy0 : ((v2 = -1 ∧ ¬ ((x1 = -1 ∨ (0 ≤ x1 ∧ x1 < σ1 86 6)) ∧ 1 ≤ x2 ∧ x2 ≤ 99 ∧ (x3 = 0 ∨ x3 = 1)) ∧ σ2 86 6 = σ1 86 6 ∧ (α2 91, α2 92, α2 87) = (α1 91, α1 92, α1 87)) ∨ (v2 = -3 ∧ ((x1 = -1 ∨ (0 ≤ x1 ∧ x1 < σ1 86 6)) ∧ 1 ≤ x2 ∧ x2 ≤ 99 ∧ (x3 = 0 ∨ x3 = 1)) ∧ 32 ≤ σ1 86 6 ∧ σ2 86 6 = σ1 86 6 ∧ (α2 91, α2 92, α2 87) = (α1 91, α1 92, α1 87)) ∨ (v2 = σ1 86 6 ∧ ((x1 = -1 ∨ (0 ≤ x1 ∧ x1 < σ1 86 6)) ∧ 1 ≤ x2 ∧ x2 ≤ 99 ∧ (x3 = 0 ∨ x3 = 1)) ∧ σ1 86 6 < 32 ∧ σ2 86 6 = σ1 86 6 + 1 ∧ (α2 91, α2 92, α2 87) = qstm (α1 91, α1 92, α1 87) (σ1 86 6) x1 x2 x3)))  : v1 = v2 ∧ σ1 86 6 ≤ σ2 86 6 ∧ qR σ2 α2 ∧ qRF σ2 α2 ∧ qRH σ2 α2 ∧ qRL σ2 α2 := by
  have b6 : 0 ≤ σ 86 6 ∧ σ 86 6 ≤ 32 := hI.1 86 6
  have b16 : 0 ≤ σ 86 16 ∧ σ 86 16 ≤ 40 := hI.1 86 16
  have b24 : 0 ≤ σ 86 24 ∧ σ 86 24 ≤ 60 := hI.1 86 24
  have e6 := hR.1
  have e16 := hR.2.1
  have e24 := hR.2.2.1
  have c6 : σ1 86 6 = σ 86 6 := hG1.1 86 6 (by decide)
  have c91 := hG1.2 91 (by decide)
  have c92 := hG1.2 92 (by decide)
  have c87 := hG1.2 87 (by decide)
  have d6 : σ2 17 6 = σ1 17 6 := hG2.1 17 6 (by decide)
  have d18 := hG2.2 18 (by decide)
  have d19 := hG2.2 19 (by decide)
  have d20 := hG2.2 20 (by decide)
  have d22 := hG2.2 22 (by decide)
  have hG : qFr [(17, 6), (86, 6), (86, 15)] [18, 19, 20, 22, 87, 91, 92] σ α σ2 α2 := qFr_tr hG1 hG2
  have h0 := qPP_0 hI hR hH hL
  rw [c91, c92, c87] at hy0
  rcases hx0 with ⟨x1', x2', x3', x4'⟩ | ⟨x1', x2', x3', x4', x5'⟩ | ⟨x1', x2', x3', x4', x5'⟩
  · rcases hy0 with ⟨y1, y2, y3, y4⟩ | ⟨y1, y2, y3, y4, y5⟩ | ⟨y1, y2, y3, y4, y5⟩
    · exact ⟨by omega, by omega, ro_pp hR hF h0 hG (by omega) (by omega) (by rw [d18, d19, d20, d22]; exact x4') (y4)⟩
    · exact False.elim (by omega)
    · exact False.elim (by omega)
  · rcases hy0 with ⟨y1, y2, y3, y4⟩ | ⟨y1, y2, y3, y4, y5⟩ | ⟨y1, y2, y3, y4, y5⟩
    · exact False.elim (by omega)
    · exact ⟨by omega, by omega, ro_pp hR hF h0 hG (by omega) (by omega) (by rw [d18, d19, d20, d22]; exact x5') (y5)⟩
    · exact False.elim (by omega)
  · rcases hy0 with ⟨y1, y2, y3, y4⟩ | ⟨y1, y2, y3, y4, y5⟩ | ⟨y1, y2, y3, y4, y5⟩
    · exact False.elim (by omega)
    · exact False.elim (by omega)
    · have hs := qPP_s (by omega) (by omega) (σ 17 6) _ _ x1 x2 x3 (by omega) (by omega) (by unfold qfit; omega) h0
      rw [c6, ← e6] at y5
      exact ⟨by omega, by omega, ro_pp hR hF hs hG (by omega) (by omega) (by rw [d18, d19, d20, d22]; exact x5') y5⟩

set_option maxHeartbeats 4000000 in
theorem ro_people {σ α σ1 α1 σ2 α2 : Nat → Nat → Int} {κ : Nat → Option Nat} {ρ : Nat} {x1 x2 x3 v1 v2 : Int}  (hI : qI σ α κ ρ) (hR : qR σ α) (hF : qRF σ α) (hH : qRH σ α) (hL : qRL σ α) (hG1 : qFr [(17, 6)] [18, 19, 20, 22] σ α σ1 α1) (hG2 : qFr [(86, 6), (86, 15)] [87, 91, 92] σ1 α1 σ2 α2) (hx0 : ((v1 = -1 ∧ ¬ (0 ≤ x1 ∧ x1 ≤ 5 ∧ 1 ≤ x3 ∧ x3 ≤ 20) ∧ σ1 17 6 = σ 17 6 ∧ (α1 18, α1 19, α1 20, α1 22) = (α 18, α 19, α 20, α 22)) ∨ (v1 = 0 ∧ (0 ≤ x1 ∧ x1 ≤ 5 ∧ 1 ≤ x3 ∧ x3 ≤ 20) ∧ α 45 (x1 : Int).toNat = 6 ∧ σ1 17 6 = σ 17 6 ∧ (α1 18, α1 19, α1 20, α1 22) = (α 18, α 19, α 20, α 22)) ∨ (v1 = -12 ∧ (0 ≤ x1 ∧ x1 ≤ 5 ∧ 1 ≤ x3 ∧ x3 ≤ 20) ∧ (¬ α 45 (x1 : Int).toNat = 6 ∧ ¬ α 45 (x1 : Int).toNat = 0) ∧ σ1 17 6 = σ 17 6 ∧ (α1 18, α1 19, α1 20, α1 22) = (α 18, α 19, α 20, α 22)) ∨ ((0 ≤ x1 ∧ x1 ≤ 5 ∧ 1 ≤ x3 ∧ x3 ≤ 20) ∧ α 45 (x1 : Int).toNat = 0 ∧ (v1, σ1 17 6, (α1 18, α1 19, α1 20, α1 22)) = qps qstc (α 48) (x1 * 60) (α 46 (x1 : Int).toNat) x2 (x3 : Int).toNat 0 (σ 17 6) (α 18, α 19, α 20, α 22)))) (hy0 : ((v2 = -1 ∧ ¬ (0 ≤ x1 ∧ x1 ≤ 5 ∧ 1 ≤ x3 ∧ x3 ≤ 20) ∧ σ2 86 6 = σ1 86 6 ∧ (α2 91, α2 92, α2 87) = (α1 91, α1 92, α1 87)) ∨ (v2 = 0 ∧ (0 ≤ x1 ∧ x1 ≤ 5 ∧ 1 ≤ x3 ∧ x3 ≤ 20) ∧ α1 121 (x1 : Int).toNat < 0 ∧ σ2 86 6 = σ1 86 6 ∧ (α2 91, α2 92, α2 87) = (α1 91, α1 92, α1 87)) ∨ (v2 = -12 ∧ (0 ≤ x1 ∧ x1 ≤ 5 ∧ 1 ≤ x3 ∧ x3 ≤ 20) ∧ (0 ≤ α1 121 (x1 : Int).toNat ∧ ¬ α1 121 (x1 : Int).toNat = 60) ∧ σ2 86 6 = σ1 86 6 ∧ (α2 91, α2 92, α2 87) = (α1 91, α1 92, α1 87)) ∨ ((0 ≤ x1 ∧ x1 ≤ 5 ∧ 1 ≤ x3 ∧ x3 ≤ 20) ∧ α1 121 (x1 : Int).toNat = 60 ∧ (v2, σ2 86 6, (α2 91, α2 92, α2 87)) = qps qstm (α1 123) (60 * x1) (α1 122 (x1 : Int).toNat) x2 (x3 : Int).toNat 0 (σ1 86 6) (α1 91, α1 92, α1 87))))  : v1 = v2 ∧ σ1 86 6 ≤ σ2 86 6 ∧ qR σ2 α2 ∧ qRF σ2 α2 ∧ qRH σ2 α2 ∧ qRL σ2 α2 := by
  have b6 : 0 ≤ σ 86 6 ∧ σ 86 6 ≤ 32 := hI.1 86 6
  have b16 : 0 ≤ σ 86 16 ∧ σ 86 16 ≤ 40 := hI.1 86 16
  have b24 : 0 ≤ σ 86 24 ∧ σ 86 24 ≤ 60 := hI.1 86 24
  have e6 := hR.1
  have e16 := hR.2.1
  have e24 := hR.2.2.1
  have c6 : σ1 86 6 = σ 86 6 := hG1.1 86 6 (by decide)
  have c91 := hG1.2 91 (by decide)
  have c92 := hG1.2 92 (by decide)
  have c87 := hG1.2 87 (by decide)
  have d6 : σ2 17 6 = σ1 17 6 := hG2.1 17 6 (by decide)
  have d18 := hG2.2 18 (by decide)
  have d19 := hG2.2 19 (by decide)
  have d20 := hG2.2 20 (by decide)
  have d22 := hG2.2 22 (by decide)
  have hG : qFr [(17, 6), (86, 6), (86, 15)] [18, 19, 20, 22, 87, 91, 92] σ α σ2 α2 := qFr_tr hG1 hG2
  have h0 := qPP_0 hI hR hH hL
  rw [c91, c92, c87] at hy0
  have cp : 0 ≤ x1 ∧ x1 ≤ 5 → qpg (α 45 (x1 : Int).toNat) (α 47 (x1 : Int).toNat) (α 121 (x1 : Int).toNat) := fun h => hR.2.2.2.2.2.2.2.1 _ (by omega)
  unfold qpg at cp
  have c121 := hG1.2 121 (by decide)
  have c122 := hG1.2 122 (by decide)
  have c123 := hG1.2 123 (by decide)
  rw [c121, c122, c123] at hy0
  rcases hx0 with ⟨x1', x2', x3', x4'⟩ | ⟨x1', x2', x3', x4', x5'⟩ | ⟨x1', x2', ⟨x3a, x3b⟩, x4', x5'⟩ | ⟨x1', x2', x3'⟩
  · rcases hy0 with ⟨y1, y2, y3, y4⟩ | ⟨y1, y2, y3, y4, y5⟩ | ⟨y1, y2, ⟨y3a, y3b⟩, y4, y5⟩ | ⟨y1, y2, y3⟩
    · exact ⟨by omega, by omega, ro_pp hR hF h0 hG (by omega) (by omega) (by rw [d18, d19, d20, d22]; exact x4') (y4)⟩
    · exact False.elim (by omega)
    · exact False.elim (by omega)
    · exact False.elim (by omega)
  · rcases hy0 with ⟨y1, y2, y3, y4⟩ | ⟨y1, y2, y3, y4, y5⟩ | ⟨y1, y2, ⟨y3a, y3b⟩, y4, y5⟩ | ⟨y1, y2, y3⟩
    · exact False.elim (by omega)
    · exact ⟨by omega, by omega, ro_pp hR hF h0 hG (by omega) (by omega) (by rw [d18, d19, d20, d22]; exact x5') (y5)⟩
    · exact False.elim (by omega)
    · exact False.elim (by omega)
  · rcases hy0 with ⟨y1, y2, y3, y4⟩ | ⟨y1, y2, y3, y4, y5⟩ | ⟨y1, y2, ⟨y3a, y3b⟩, y4, y5⟩ | ⟨y1, y2, y3⟩
    · exact False.elim (by omega)
    · exact False.elim (by omega)
    · exact ⟨by omega, by omega, ro_pp hR hF h0 hG (by omega) (by omega) (by rw [d18, d19, d20, d22]; exact x5') (y5)⟩
    · exact False.elim (by omega)
  · rcases hy0 with ⟨y1, y2, y3, y4⟩ | ⟨y1, y2, y3, y4, y5⟩ | ⟨y1, y2, ⟨y3a, y3b⟩, y4, y5⟩ | ⟨y1, y2, y3⟩
    · exact False.elim (by omega)
    · exact False.elim (by omega)
    · exact False.elim (by omega)
    · have r7 : α 46 (x1 : Int).toNat = α 122 (x1 : Int).toNat := by rw [hR.2.2.2.2.2.2.1]
      have hl : 0 ≤ α 46 (x1 : Int).toNat ∧ α 46 (x1 : Int).toNat ≤ 60 := hI.2.1 46 _ (show (x1 : Int).toNat < 6 by omega)
      have eq := qps_eq (st := qstm) (f := α 123) (g := α 48) (b := 60 * x1) (len := α 122 (x1 : Int).toNat) (i := x2) (fun j h1 h2 => by
        have h9 := hR.2.2.2.2.2.2.2.2 (x1 : Int).toNat j.toNat (by omega) (by omega)
        unfold qpa
        rw [show (60 * x1 + j : Int).toNat = 60 * (x1 : Int).toNat + j.toNat by omega, h9]) (x3 : Int).toNat 0 (σ 86 6) (α 91, α 92, α 87)
      rw [c6, eq, ← r7, ← e6, show 60 * x1 = x1 * 60 by omega] at y3
      have hrel := qps_rel (R := qPP σ α) (f := α 48) (b := x1 * 60) (len := α 46 (x1 : Int).toNat) (i := x2) (fun s t t' l w k k0 k1 k2 k3 => qPP_s (by omega) (by omega) s t t' l w k k0 k1 k2 k3) (x3 : Int).toNat 0 (σ 17 6) _ _ (by omega) h0
      obtain ⟨ha, hb, hc⟩ := hrel
      have xa := congrArg (fun t => t.1) x3'
      have xb := congrArg (fun t => t.2.1) x3'
      have xc := congrArg (fun t => t.2.2) x3'
      have ya := congrArg (fun t => t.1) y3
      have yb := congrArg (fun t => t.2.1) y3
      have yc := congrArg (fun t => t.2.2) y3
      refine ⟨(xa.trans ha).trans ya.symm, Int.le_trans (show σ1 86 6 ≤ σ 17 6 by omega) (Int.le_trans (qps_ge _ _ _ _) (Int.le_of_eq yb.symm)), ro_pp hR hF hc hG (d6.trans xb) ((yb.trans hb.symm)) (by rw [d18, d19, d20, d22]; exact xc) yc⟩

set_option maxHeartbeats 4000000 in
theorem ro_sword {σ α σ1 α1 σ2 α2 : Nat → Nat → Int} {κ : Nat → Option Nat} {ρ : Nat} {x1 x2 v1 v2 : Int}  (hI : qI σ α κ ρ) (hR : qR σ α) (hH : qRH σ α) (hG1 : qFr [(76, 7), (76, 8)] [20, 33, 35, 41, 77, 78, 79, 80] σ α σ1 α1) (hG2 : qFr [(86, 4), (86, 5)] [87, 88, 89, 90] σ1 α1 σ2 α2) (hx0 : ((v1 = -1 ∧ ¬ (0 ≤ x1 ∧ x1 < σ 17 6 ∧ 0 ≤ x2 ∧ x2 ≤ 1) ∧ qHq σ1 α1 ((α 87, α 88, α 89, α 90, σ 86 5, σ 86 4) : qHS)) ∨ ((0 ≤ x1 ∧ x1 < σ 17 6 ∧ 0 ≤ x2 ∧ x2 ≤ 1) ∧ v1 = qtd (α 33) (α 41) (α 20) (α 35) 2 x1 ∧ qHq σ1 α1 (qbec ((α 87, α 88, α 89, α 90, σ 86 5, σ 86 4) : qHS) (qat 2 x1) (qwd ((α 87, α 88, α 89, α 90, σ 86 5, σ 86 4) : qHS).1 2 x1 x2))))) (hy0 : ((v2 = -1 ∧ ¬ (0 ≤ x1 ∧ x1 < σ1 86 6 ∧ 0 ≤ x2 ∧ x2 ≤ 1) ∧ (α2 87 = α1 87 ∧ α2 88 = α1 88 ∧ α2 89 = α1 89 ∧ α2 90 = α1 90 ∧ σ2 86 5 = σ1 86 5 ∧ σ2 86 4 = σ1 86 4)) ∨ ((0 ≤ x1 ∧ x1 < σ1 86 6 ∧ 0 ≤ x2 ∧ x2 ≤ 1) ∧ v2 = α1 87 (0 + x1 : Int).toNat ∧ (α2 87 = (qbec (α1 87, α1 88, α1 89, α1 90, σ1 86 5, σ1 86 4) (0 + x1) x2).1 ∧ α2 88 = (qbec (α1 87, α1 88, α1 89, α1 90, σ1 86 5, σ1 86 4) (0 + x1) x2).2.1 ∧ α2 89 = (qbec (α1 87, α1 88, α1 89, α1 90, σ1 86 5, σ1 86 4) (0 + x1) x2).2.2.1 ∧ α2 90 = (qbec (α1 87, α1 88, α1 89, α1 90, σ1 86 5, σ1 86 4) (0 + x1) x2).2.2.2.1 ∧ σ2 86 5 = (qbec (α1 87, α1 88, α1 89, α1 90, σ1 86 5, σ1 86 4) (0 + x1) x2).2.2.2.2.1 ∧ σ2 86 4 = (qbec (α1 87, α1 88, α1 89, α1 90, σ1 86 5, σ1 86 4) (0 + x1) x2).2.2.2.2.2))))  : v1 = v2 ∧ qRH σ2 α2 := by
  have b6 : 0 ≤ σ 86 6 ∧ σ 86 6 ≤ 32 := hI.1 86 6
  have b16 : 0 ≤ σ 86 16 ∧ σ 86 16 ≤ 40 := hI.1 86 16
  have b24 : 0 ≤ σ 86 24 ∧ σ 86 24 ≤ 60 := hI.1 86 24
  have e6 := hR.1
  have e16 := hR.2.1
  have e24 := hR.2.2.1
  have c6 : σ1 86 6 = σ 86 6 := hG1.1 86 6 (by decide)
  have c16 : σ1 86 16 = σ 86 16 := hG1.1 86 16 (by decide)
  have c24 : σ1 86 24 = σ 86 24 := hG1.1 86 24 (by decide)
  have c87 := hG1.2 87 (by decide)
  rcases hx0 with ⟨a1, a2, a3⟩ | ⟨a1, a2, a3⟩
  · rcases hy0 with ⟨b1, b2, b3⟩ | ⟨b1, b2, b3⟩
    · exact ⟨by omega, ro_cs hH hG1 (by decide) (by decide) hG2 (by decide) (by decide) a3 b3⟩
    · exact False.elim (by omega)
  · rcases hy0 with ⟨b1, b2, b3⟩ | ⟨b1, b2, b3⟩
    · exact False.elim (by omega)
    · refine ⟨?_, ro_ch hH hG1 hG2 a3 (show (0 + x1 : Int) = x1 by omega) (rfl) b3⟩
      rw [a2, b2, c87]
      have h1 : qtd (α 33) (α 41) (α 20) (α 35) 2 x1 = α 20 (x1 : Int).toNat := rfl
      rw [h1, hH.1.1.1.1 _ (show (x1 : Int).toNat < 32 by omega)]
      show α 87 (x1 : Int).toNat = α 87 (0 + x1 : Int).toNat
      rw [show (0 + x1 : Int) = x1 by omega]

set_option maxHeartbeats 4000000 in
theorem ro_pay {σ α σ1 α1 σ2 α2 : Nat → Nat → Int} {κ : Nat → Option Nat} {ρ : Nat} {x1 x2 v1 v2 : Int}  (hI : qI σ α κ ρ) (hR : qR σ α) (hH : qRH σ α) (hG1 : qFr [(76, 7), (76, 8)] [20, 33, 35, 41, 77, 78, 79, 80] σ α σ1 α1) (hG2 : qFr [(86, 4), (86, 5)] [87, 88, 89, 90] σ1 α1 σ2 α2) (hx0 : ((v1 = -1 ∧ ¬ (0 ≤ x1 ∧ x1 < σ 27 7 ∧ 0 ≤ x2 ∧ x2 ≤ 2400) ∧ qHq σ1 α1 ((α 87, α 88, α 89, α 90, σ 86 5, σ 86 4) : qHS)) ∨ ((0 ≤ x1 ∧ x1 < σ 27 7 ∧ 0 ≤ x2 ∧ x2 ≤ 2400) ∧ v1 = qtd (α 33) (α 41) (α 20) (α 35) 0 x1 ∧ qHq σ1 α1 (qbec ((α 87, α 88, α 89, α 90, σ 86 5, σ 86 4) : qHS) (qat 0 x1) (qwd ((α 87, α 88, α 89, α 90, σ 86 5, σ 86 4) : qHS).1 0 x1 x2))))) (hy0 : ((v2 = -1 ∧ ¬ (0 ≤ x1 ∧ x1 < σ1 86 16 ∧ 0 ≤ x2 ∧ x2 ≤ 2400) ∧ (α2 87 = α1 87 ∧ α2 88 = α1 88 ∧ α2 89 = α1 89 ∧ α2 90 = α1 90 ∧ σ2 86 5 = σ1 86 5 ∧ σ2 86 4 = σ1 86 4)) ∨ ((0 ≤ x1 ∧ x1 < σ1 86 16 ∧ 0 ≤ x2 ∧ x2 ≤ 2400) ∧ v2 = α1 87 (32 + x1 : Int).toNat ∧ (α2 87 = (qbec (α1 87, α1 88, α1 89, α1 90, σ1 86 5, σ1 86 4) (32 + x1) x2).1 ∧ α2 88 = (qbec (α1 87, α1 88, α1 89, α1 90, σ1 86 5, σ1 86 4) (32 + x1) x2).2.1 ∧ α2 89 = (qbec (α1 87, α1 88, α1 89, α1 90, σ1 86 5, σ1 86 4) (32 + x1) x2).2.2.1 ∧ α2 90 = (qbec (α1 87, α1 88, α1 89, α1 90, σ1 86 5, σ1 86 4) (32 + x1) x2).2.2.2.1 ∧ σ2 86 5 = (qbec (α1 87, α1 88, α1 89, α1 90, σ1 86 5, σ1 86 4) (32 + x1) x2).2.2.2.2.1 ∧ σ2 86 4 = (qbec (α1 87, α1 88, α1 89, α1 90, σ1 86 5, σ1 86 4) (32 + x1) x2).2.2.2.2.2))))  : v1 = v2 ∧ qRH σ2 α2 := by
  have b6 : 0 ≤ σ 86 6 ∧ σ 86 6 ≤ 32 := hI.1 86 6
  have b16 : 0 ≤ σ 86 16 ∧ σ 86 16 ≤ 40 := hI.1 86 16
  have b24 : 0 ≤ σ 86 24 ∧ σ 86 24 ≤ 60 := hI.1 86 24
  have e6 := hR.1
  have e16 := hR.2.1
  have e24 := hR.2.2.1
  have c6 : σ1 86 6 = σ 86 6 := hG1.1 86 6 (by decide)
  have c16 : σ1 86 16 = σ 86 16 := hG1.1 86 16 (by decide)
  have c24 : σ1 86 24 = σ 86 24 := hG1.1 86 24 (by decide)
  have c87 := hG1.2 87 (by decide)
  rcases hx0 with ⟨a1, a2, a3⟩ | ⟨a1, a2, a3⟩
  · rcases hy0 with ⟨b1, b2, b3⟩ | ⟨b1, b2, b3⟩
    · exact ⟨by omega, ro_cs hH hG1 (by decide) (by decide) hG2 (by decide) (by decide) a3 b3⟩
    · exact False.elim (by omega)
  · rcases hy0 with ⟨b1, b2, b3⟩ | ⟨b1, b2, b3⟩
    · exact False.elim (by omega)
    · refine ⟨?_, ro_ch hH hG1 hG2 a3 (rfl) (rfl) b3⟩
      rw [a2, b2, c87]
      have h1 : qtd (α 33) (α 41) (α 20) (α 35) 0 x1 = α 33 (x1 : Int).toNat := rfl
      rw [h1, hH.1.1.1.2.1 _ (show (x1 : Int).toNat < 40 by omega)]
      show α 87 (32 + (x1 : Int).toNat) = α 87 (32 + x1 : Int).toNat
      rw [show (32 + x1 : Int).toNat = 32 + (x1 : Int).toNat by omega]

set_option maxHeartbeats 4000000 in
theorem ro_cover {σ α σ1 α1 σ2 α2 : Nat → Nat → Int} {κ : Nat → Option Nat} {ρ : Nat} {x1 x2 x3 v1 v2 : Int}  (hI : qI σ α κ ρ) (hR : qR σ α) (hH : qRH σ α) (hG1 : qFr [(76, 7), (76, 8)] [20, 33, 35, 41, 77, 78, 79, 80] σ α σ1 α1) (hG2 : qFr [(86, 4), (86, 5)] [87, 88, 89, 90] σ1 α1 σ2 α2) (hx0 : ((v1 = -1 ∧ ¬ (0 ≤ x1 ∧ x1 < σ 34 7 ∧ 0 ≤ x2 ∧ x2 < σ 17 6 ∧ 0 ≤ x3 ∧ x3 ≤ 1) ∧ qHq σ1 α1 ((α 87, α 88, α 89, α 90, σ 86 5, σ 86 4) : qHS)) ∨ ((0 ≤ x1 ∧ x1 < σ 34 7 ∧ 0 ≤ x2 ∧ x2 < σ 17 6 ∧ 0 ≤ x3 ∧ x3 ≤ 1) ∧ v1 = qtd (α 33) (α 41) (α 20) (α 35) 1 (x1 * 32 + x2) ∧ qHq σ1 α1 (qbec ((α 87, α 88, α 89, α 90, σ 86 5, σ 86 4) : qHS) (qat 1 (x1 * 32 + x2)) (qwd ((α 87, α 88, α 89, α 90, σ 86 5, σ 86 4) : qHS).1 1 (x1 * 32 + x2) x3))))) (hy0 : ((v2 = -1 ∧ ¬ (0 ≤ x1 ∧ x1 < σ1 86 24 ∧ 0 ≤ x2 ∧ x2 < σ1 86 6 ∧ 0 ≤ x3 ∧ x3 ≤ 1) ∧ (α2 87 = α1 87 ∧ α2 88 = α1 88 ∧ α2 89 = α1 89 ∧ α2 90 = α1 90 ∧ σ2 86 5 = σ1 86 5 ∧ σ2 86 4 = σ1 86 4)) ∨ ((0 ≤ x1 ∧ x1 < σ1 86 24 ∧ 0 ≤ x2 ∧ x2 < σ1 86 6 ∧ 0 ≤ x3 ∧ x3 ≤ 1) ∧ v2 = qcw (α1 87) (x1 : Int).toNat x2 ∧ (α2 87 = (qbec (α1 87, α1 88, α1 89, α1 90, σ1 86 5, σ1 86 4) (72 + 2 * x1 + x2 / 16) (qcj (α1 87 (72 + 2 * x1 + x2 / 16).toNat) (x2 % 16) x3)).1 ∧ α2 88 = (qbec (α1 87, α1 88, α1 89, α1 90, σ1 86 5, σ1 86 4) (72 + 2 * x1 + x2 / 16) (qcj (α1 87 (72 + 2 * x1 + x2 / 16).toNat) (x2 % 16) x3)).2.1 ∧ α2 89 = (qbec (α1 87, α1 88, α1 89, α1 90, σ1 86 5, σ1 86 4) (72 + 2 * x1 + x2 / 16) (qcj (α1 87 (72 + 2 * x1 + x2 / 16).toNat) (x2 % 16) x3)).2.2.1 ∧ α2 90 = (qbec (α1 87, α1 88, α1 89, α1 90, σ1 86 5, σ1 86 4) (72 + 2 * x1 + x2 / 16) (qcj (α1 87 (72 + 2 * x1 + x2 / 16).toNat) (x2 % 16) x3)).2.2.2.1 ∧ σ2 86 5 = (qbec (α1 87, α1 88, α1 89, α1 90, σ1 86 5, σ1 86 4) (72 + 2 * x1 + x2 / 16) (qcj (α1 87 (72 + 2 * x1 + x2 / 16).toNat) (x2 % 16) x3)).2.2.2.2.1 ∧ σ2 86 4 = (qbec (α1 87, α1 88, α1 89, α1 90, σ1 86 5, σ1 86 4) (72 + 2 * x1 + x2 / 16) (qcj (α1 87 (72 + 2 * x1 + x2 / 16).toNat) (x2 % 16) x3)).2.2.2.2.2))))  : v1 = v2 ∧ qRH σ2 α2 := by
  have b6 : 0 ≤ σ 86 6 ∧ σ 86 6 ≤ 32 := hI.1 86 6
  have b16 : 0 ≤ σ 86 16 ∧ σ 86 16 ≤ 40 := hI.1 86 16
  have b24 : 0 ≤ σ 86 24 ∧ σ 86 24 ≤ 60 := hI.1 86 24
  have e6 := hR.1
  have e16 := hR.2.1
  have e24 := hR.2.2.1
  have c6 : σ1 86 6 = σ 86 6 := hG1.1 86 6 (by decide)
  have c16 : σ1 86 16 = σ 86 16 := hG1.1 86 16 (by decide)
  have c24 : σ1 86 24 = σ 86 24 := hG1.1 86 24 (by decide)
  have c87 := hG1.2 87 (by decide)
  rcases hx0 with ⟨a1, a2, a3⟩ | ⟨a1, a2, a3⟩
  · rcases hy0 with ⟨b1, b2, b3⟩ | ⟨b1, b2, b3⟩
    · exact ⟨by omega, ro_cs hH hG1 (by decide) (by decide) hG2 (by decide) (by decide) a3 b3⟩
    · exact False.elim (by omega)
  · rcases hy0 with ⟨b1, b2, b3⟩ | ⟨b1, b2, b3⟩
    · exact False.elim (by omega)
    · refine ⟨?_, ro_ch hH hG1 hG2 a3 (show 72 + 2 * x1 + x2 / 16 = 72 + 2 * ((x1 * 32 + x2) / 32) + (x1 * 32 + x2) % 32 / 16 by omega) (by
        rw [c87]
        show qcj (α 87 (72 + 2 * x1 + x2 / 16).toNat) (x2 % 16) x3 = qcj (α 87 (72 + 2 * ((x1 * 32 + x2) / 32) + (x1 * 32 + x2) % 32 / 16).toNat) ((x1 * 32 + x2) % 16) x3
        rw [show 72 + 2 * ((x1 * 32 + x2) / 32) + (x1 * 32 + x2) % 32 / 16 = 72 + 2 * x1 + x2 / 16 by omega, show (x1 * 32 + x2) % 16 = x2 % 16 by omega]) b3⟩
      rw [a2, b2, c87]
      have h1 : qtd (α 33) (α 41) (α 20) (α 35) 1 (x1 * 32 + x2) = qbit (α 41 ((x1 * 32 + x2) / 32 : Int).toNat) ((x1 * 32 + x2) % 32) := rfl
      have h2 := hH.1.1.1.2.2.2.1 (x1 : Int).toNat (by omega) x2 ⟨by omega, by omega⟩
      rw [if_pos (by omega)] at h2
      rw [h1, show (x1 * 32 + x2) / 32 = x1 by omega, show (x1 * 32 + x2) % 32 = x2 by omega]
      exact h2

set_option maxHeartbeats 4000000 in
theorem ro_undo {σ α σ1 α1 σ2 α2 : Nat → Nat → Int} {κ : Nat → Option Nat} {ρ : Nat} { v1 v2 : Int}  (hI : qI σ α κ ρ) (hR : qR σ α) (hH : qRH σ α) (hG1 : qFr [(76, 7)] [20, 33, 35, 41] σ α σ1 α1) (hG2 : qFr [(86, 5)] [87] σ1 α1 σ2 α2) (hx0 : ((v1 = -5 ∧ ¬ 0 < σ 76 7 ∧ qHq σ1 α1 ((α 87, α 88, α 89, α 90, σ 86 5, σ 86 4) : qHS)) ∨ (v1 = σ 76 7 - 1 ∧ 0 < σ 76 7 ∧ qHq σ1 α1 (qund ((α 87, α 88, α 89, α 90, σ 86 5, σ 86 4) : qHS))))) (hy0 : ((v2 = -5 ∧ σ1 86 5 = 0 ∧ α2 87 = α1 87 ∧ σ2 86 5 = σ1 86 5) ∨ (v2 = σ1 86 5 - 1 ∧ 0 < σ1 86 5 ∧ α2 87 = qzu (α1 87) (α1 88 (σ1 86 5 - 1 : Int).toNat).toNat (α1 89 (σ1 86 5 - 1 : Int).toNat) ∧ σ2 86 5 = σ1 86 5 - 1)))  : v1 = v2 ∧ qRH σ2 α2 := by
  have b6 : 0 ≤ σ 86 6 ∧ σ 86 6 ≤ 32 := hI.1 86 6
  have b16 : 0 ≤ σ 86 16 ∧ σ 86 16 ≤ 40 := hI.1 86 16
  have b24 : 0 ≤ σ 86 24 ∧ σ 86 24 ≤ 60 := hI.1 86 24
  have e6 := hR.1
  have e16 := hR.2.1
  have e24 := hR.2.2.1
  have g7 := hH.1.2.1
  have gd := hH.1.2.2.1
  have g7a : σ 76 7 = σ 86 5 := g7.1
  have g7b : σ 76 8 = σ 86 4 := g7.2
  have gda : 0 ≤ σ 86 5 ∧ σ 86 5 ≤ σ 86 4 ∧ σ 86 4 ≤ 40 := gd
  have c5 : σ1 86 5 = σ 86 5 := hG1.1 86 5 (by decide)
  have c4 : σ1 86 4 = σ 86 4 := hG1.1 86 4 (by decide)
  have d4 : σ2 86 4 = σ1 86 4 := hG2.1 86 4 (by decide)
  have c87 := hG1.2 87 (by decide)
  have c88 := hG1.2 88 (by decide)
  have c89 := hG1.2 89 (by decide)
  have c90 := hG1.2 90 (by decide)
  have d88 := hG2.2 88 (by decide)
  have d89 := hG2.2 89 (by decide)
  have d90 := hG2.2 90 (by decide)
  rcases hx0 with ⟨a1, a2, a3⟩ | ⟨a1, a2, a3⟩
  · rcases hy0 with ⟨b1, b2, b3, b4⟩ | ⟨b1, b2, b3, b4⟩
    · exact ⟨by omega, ro_cs hH hG1 (by decide) (by decide) hG2 (by decide) (by decide) a3 ⟨b3, d88, d89, d90, b4, d4⟩⟩
    · exact False.elim (by omega)
  · rcases hy0 with ⟨b1, b2, b3, b4⟩ | ⟨b1, b2, b3, b4⟩
    · exact False.elim (by omega)
    · refine ⟨by omega, ?_⟩
      rw [c87, c88, c89, c5] at b3
      have e : ((α2 87, α2 88, α2 89, α2 90, σ2 86 5, σ2 86 4) : qHS) = qund (α 87, α 88, α 89, α 90, σ 86 5, σ 86 4) := by
        rw [b3, d88, d89, d90, d4, c88, c89, c90, c4, b4, c5]
        rfl
      unfold qRH
      rw [e]
      exact ⟨qHq_fr hG2 (by decide) (by decide) a3, (qCh_und (by show 0 < σ 86 5 ∧ σ 86 5 ≤ σ 86 4; omega) hH.2).2⟩

set_option maxHeartbeats 4000000 in
theorem ro_redo {σ α σ1 α1 σ2 α2 : Nat → Nat → Int} {κ : Nat → Option Nat} {ρ : Nat} { v1 v2 : Int}  (hI : qI σ α κ ρ) (hR : qR σ α) (hH : qRH σ α) (hG1 : qFr [(76, 7)] [20, 33, 35, 41] σ α σ1 α1) (hG2 : qFr [(86, 5)] [87] σ1 α1 σ2 α2) (hx0 : ((v1 = -5 ∧ ¬ σ 76 7 < σ 76 8 ∧ qHq σ1 α1 ((α 87, α 88, α 89, α 90, σ 86 5, σ 86 4) : qHS)) ∨ (v1 = σ 76 8 - σ 76 7 - 1 ∧ σ 76 7 < σ 76 8 ∧ qHq σ1 α1 (qred ((α 87, α 88, α 89, α 90, σ 86 5, σ 86 4) : qHS))))) (hy0 : ((v2 = -5 ∧ σ1 86 5 = σ1 86 4 ∧ α2 87 = α1 87 ∧ σ2 86 5 = σ1 86 5) ∨ (v2 = σ1 86 4 - σ1 86 5 - 1 ∧ ¬ σ1 86 5 = σ1 86 4 ∧ α2 87 = qzu (α1 87) (α1 88 (σ1 86 5 : Int).toNat).toNat (α1 90 (σ1 86 5 : Int).toNat) ∧ σ2 86 5 = σ1 86 5 + 1)))  : v1 = v2 ∧ qRH σ2 α2 := by
  have b6 : 0 ≤ σ 86 6 ∧ σ 86 6 ≤ 32 := hI.1 86 6
  have b16 : 0 ≤ σ 86 16 ∧ σ 86 16 ≤ 40 := hI.1 86 16
  have b24 : 0 ≤ σ 86 24 ∧ σ 86 24 ≤ 60 := hI.1 86 24
  have e6 := hR.1
  have e16 := hR.2.1
  have e24 := hR.2.2.1
  have g7 := hH.1.2.1
  have gd := hH.1.2.2.1
  have g7a : σ 76 7 = σ 86 5 := g7.1
  have g7b : σ 76 8 = σ 86 4 := g7.2
  have gda : 0 ≤ σ 86 5 ∧ σ 86 5 ≤ σ 86 4 ∧ σ 86 4 ≤ 40 := gd
  have c5 : σ1 86 5 = σ 86 5 := hG1.1 86 5 (by decide)
  have c4 : σ1 86 4 = σ 86 4 := hG1.1 86 4 (by decide)
  have d4 : σ2 86 4 = σ1 86 4 := hG2.1 86 4 (by decide)
  have c87 := hG1.2 87 (by decide)
  have c88 := hG1.2 88 (by decide)
  have c89 := hG1.2 89 (by decide)
  have c90 := hG1.2 90 (by decide)
  have d88 := hG2.2 88 (by decide)
  have d89 := hG2.2 89 (by decide)
  have d90 := hG2.2 90 (by decide)
  rcases hx0 with ⟨a1, a2, a3⟩ | ⟨a1, a2, a3⟩
  · rcases hy0 with ⟨b1, b2, b3, b4⟩ | ⟨b1, b2, b3, b4⟩
    · exact ⟨by omega, ro_cs hH hG1 (by decide) (by decide) hG2 (by decide) (by decide) a3 ⟨b3, d88, d89, d90, b4, d4⟩⟩
    · exact False.elim (by omega)
  · rcases hy0 with ⟨b1, b2, b3, b4⟩ | ⟨b1, b2, b3, b4⟩
    · exact False.elim (by omega)
    · refine ⟨by omega, ?_⟩
      rw [c87, c88, c90, c5] at b3
      have e : ((α2 87, α2 88, α2 89, α2 90, σ2 86 5, σ2 86 4) : qHS) = qred (α 87, α 88, α 89, α 90, σ 86 5, σ 86 4) := by
        rw [b3, d88, d89, d90, d4, c88, c89, c90, c4, b4, c5]
        rfl
      unfold qRH
      rw [e]
      exact ⟨qHq_fr hG2 (by decide) (by decide) a3, (qCh_red (by show 0 ≤ σ 86 5 ∧ σ 86 5 < σ 86 4; omega) hH.2).2⟩

set_option maxHeartbeats 4000000 in
theorem ro_feud {σ α σ1 α1 σ2 α2 : Nat → Nat → Int} {κ : Nat → Option Nat} {ρ : Nat} {x1 x2 x3 v1 v2 : Int}  (hI : qI σ α κ ρ) (hR : qR σ α) (hF : qRF σ α) (hH : qRH σ α) (hG1 : qFr [(27, 7)] [28, 29, 30, 31, 32, 33] σ α σ1 α1) (hG2 : qFr [(86, 16)] [87, 97, 98, 99, 100, 101] σ1 α1 σ2 α2) (hx0 : ((v1 = -1 ∧ ¬ (0 ≤ x1 ∧ x1 / 100 < σ 17 6 ∧ x1 % 100 < σ 17 6 ∧ ¬ x1 / 100 = x1 % 100 ∧ 0 ≤ x2 ∧ x2 ≤ 2399 ∧ 0 ≤ x3 ∧ x3 ≤ 3999) ∧ σ1 27 7 = σ 27 7) ∧ α1 28 = α 28 ∧ α1 29 = α 29 ∧ α1 30 = α 30 ∧ α1 31 = α 31 ∧ α1 32 = α 32 ∧ α1 33 = α 33) ∨ ((v1 = -3 ∧ (0 ≤ x1 ∧ x1 / 100 < σ 17 6 ∧ x1 % 100 < σ 17 6 ∧ ¬ x1 / 100 = x1 % 100 ∧ 0 ≤ x2 ∧ x2 ≤ 2399 ∧ 0 ≤ x3 ∧ x3 ≤ 3999) ∧ 40 ≤ σ 27 7 ∧ σ1 27 7 = σ 27 7) ∧ α1 28 = α 28 ∧ α1 29 = α 29 ∧ α1 30 = α 30 ∧ α1 31 = α 31 ∧ α1 32 = α 32 ∧ α1 33 = α 33) ∨ ((v1 = σ 27 7 ∧ (0 ≤ x1 ∧ x1 / 100 < σ 17 6 ∧ x1 % 100 < σ 17 6 ∧ ¬ x1 / 100 = x1 % 100 ∧ 0 ≤ x2 ∧ x2 ≤ 2399 ∧ 0 ≤ x3 ∧ x3 ≤ 3999) ∧ σ 27 7 < 40 ∧ σ1 27 7 = σ 27 7 + 1) ∧ α1 28 = qzu (α 28) (σ 27 7 : Int).toNat (x1 / 100) ∧ α1 29 = qzu (α 29) (σ 27 7 : Int).toNat (x1 % 100) ∧ α1 30 = qzu (α 30) (σ 27 7 : Int).toNat (x2) ∧ α1 31 = qzu (α 31) (σ 27 7 : Int).toNat (x3 / 1000) ∧ α1 32 = qzu (α 32) (σ 27 7 : Int).toNat (x3 % 1000) ∧ α1 33 = qzu (α 33) (σ 27 7 : Int).toNat (2400))) (hy0 : ((v2 = -1 ∧ ¬ (0 ≤ x1 ∧ x1 / 100 < σ1 86 6 ∧ x1 % 100 < σ1 86 6 ∧ ¬ x1 / 100 = x1 % 100 ∧ 0 ≤ x2 ∧ x2 ≤ 2399 ∧ 0 ≤ x3 ∧ x3 ≤ 3999) ∧ σ2 86 16 = σ1 86 16) ∧ α2 97 = α1 97 ∧ α2 98 = α1 98 ∧ α2 99 = α1 99 ∧ α2 100 = α1 100 ∧ α2 101 = α1 101 ∧ α2 87 = α1 87) ∨ ((v2 = -3 ∧ (0 ≤ x1 ∧ x1 / 100 < σ1 86 6 ∧ x1 % 100 < σ1 86 6 ∧ ¬ x1 / 100 = x1 % 100 ∧ 0 ≤ x2 ∧ x2 ≤ 2399 ∧ 0 ≤ x3 ∧ x3 ≤ 3999) ∧ 40 ≤ σ1 86 16 ∧ σ2 86 16 = σ1 86 16) ∧ α2 97 = α1 97 ∧ α2 98 = α1 98 ∧ α2 99 = α1 99 ∧ α2 100 = α1 100 ∧ α2 101 = α1 101 ∧ α2 87 = α1 87) ∨ ((v2 = σ1 86 16 ∧ (0 ≤ x1 ∧ x1 / 100 < σ1 86 6 ∧ x1 % 100 < σ1 86 6 ∧ ¬ x1 / 100 = x1 % 100 ∧ 0 ≤ x2 ∧ x2 ≤ 2399 ∧ 0 ≤ x3 ∧ x3 ≤ 3999) ∧ σ1 86 16 < 40 ∧ σ2 86 16 = σ1 86 16 + 1) ∧ α2 97 = qzu (α1 97) (σ1 86 16 : Int).toNat (x1 / 100) ∧ α2 98 = qzu (α1 98) (σ1 86 16 : Int).toNat (x1 % 100) ∧ α2 99 = qzu (α1 99) (σ1 86 16 : Int).toNat (x2) ∧ α2 100 = qzu (α1 100) (σ1 86 16 : Int).toNat (x3 / 1000) ∧ α2 101 = qzu (α1 101) (σ1 86 16 : Int).toNat (x3 % 1000) ∧ α2 87 = qzu (α1 87) (32 + σ1 86 16 : Int).toNat (2400)))  : v1 = v2 ∧ qR σ2 α2 ∧ qRF σ2 α2 ∧ qRH σ2 α2 := by
  have b6 : 0 ≤ σ 86 6 ∧ σ 86 6 ≤ 32 := hI.1 86 6
  have b16 : 0 ≤ σ 86 16 ∧ σ 86 16 ≤ 40 := hI.1 86 16
  have b24 : 0 ≤ σ 86 24 ∧ σ 86 24 ≤ 60 := hI.1 86 24
  have e6 := hR.1
  have e16 := hR.2.1
  have e24 := hR.2.2.1
  have c6 : σ1 86 6 = σ 86 6 := hG1.1 86 6 (by decide)
  have c16 : σ1 86 16 = σ 86 16 := hG1.1 86 16 (by decide)
  have c17 : σ1 17 6 = σ 17 6 := hG1.1 17 6 (by decide)
  have d17 : σ2 17 6 = σ1 17 6 := hG2.1 17 6 (by decide)
  have d27 : σ2 27 7 = σ1 27 7 := hG2.1 27 7 (by decide)
  have hG : qFr [(27, 7), (86, 16)] [28, 29, 30, 31, 32, 33, 87, 97, 98, 99, 100, 101] σ α σ2 α2 := qFr_tr hG1 hG2
  rcases hx0 with ⟨⟨a1, a2, a3⟩, x28, x29, x30, x31, x32, x33⟩ | ⟨⟨a1, a2, a3, a4⟩, x28, x29, x30, x31, x32, x33⟩ | ⟨⟨a1, a2, a3, a4⟩, x28, x29, x30, x31, x32, x33⟩
  · skip
    rcases hy0 with ⟨⟨b1, b2, b3⟩, y97, y98, y99, y100, y101, y87⟩ | ⟨⟨b1, b2, b3, b4⟩, y97, y98, y99, y100, y101, y87⟩ | ⟨⟨b1, b2, b3, b4⟩, y97, y98, y99, y100, y101, y87⟩
    · have n1 := qFr_nil hG1 (fun x hx => by
        rcases List.mem_cons.mp hx with e | e
        · rw [e]
          exact (show σ1 27 7 = σ 27 7 by omega)
        · exact absurd e (List.not_mem_nil)) (fun a ha => by
        rcases List.mem_cons.mp ha with e | ha
        · rw [e]
          exact x28
        rcases List.mem_cons.mp ha with e | ha
        · rw [e]
          exact x29
        rcases List.mem_cons.mp ha with e | ha
        · rw [e]
          exact x30
        rcases List.mem_cons.mp ha with e | ha
        · rw [e]
          exact x31
        rcases List.mem_cons.mp ha with e | ha
        · rw [e]
          exact x32
        rcases List.mem_cons.mp ha with e | ha
        · rw [e]
          exact x33
        exact absurd ha (List.not_mem_nil))
      have n2 := qFr_nil hG2 (fun x hx => by
        rcases List.mem_cons.mp hx with e | e
        · rw [e]
          exact (show σ2 86 16 = σ1 86 16 by omega)
        · exact absurd e (List.not_mem_nil)) (fun a ha => by
        rcases List.mem_cons.mp ha with e | ha
        · rw [e]
          exact y87
        rcases List.mem_cons.mp ha with e | ha
        · rw [e]
          exact y97
        rcases List.mem_cons.mp ha with e | ha
        · rw [e]
          exact y98
        rcases List.mem_cons.mp ha with e | ha
        · rw [e]
          exact y99
        rcases List.mem_cons.mp ha with e | ha
        · rw [e]
          exact y100
        rcases List.mem_cons.mp ha with e | ha
        · rw [e]
          exact y101
        exact absurd ha (List.not_mem_nil))
      exact ⟨by omega, qR_fr n2 (by decide) (by decide) (qR_fr n1 (by decide) (by decide) hR), qRF_fr n2 (by decide) (by decide) (qRF_fr n1 (by decide) (by decide) hF), qRH_fr n2 (by decide) (by decide) (qRH_fr n1 (by decide) (by decide) hH)⟩
    · exact False.elim (by omega)
    · exact False.elim (by omega)
  · skip
    rcases hy0 with ⟨⟨b1, b2, b3⟩, y97, y98, y99, y100, y101, y87⟩ | ⟨⟨b1, b2, b3, b4⟩, y97, y98, y99, y100, y101, y87⟩ | ⟨⟨b1, b2, b3, b4⟩, y97, y98, y99, y100, y101, y87⟩
    · exact False.elim (by omega)
    · have n1 := qFr_nil hG1 (fun x hx => by
        rcases List.mem_cons.mp hx with e | e
        · rw [e]
          exact (show σ1 27 7 = σ 27 7 by omega)
        · exact absurd e (List.not_mem_nil)) (fun a ha => by
        rcases List.mem_cons.mp ha with e | ha
        · rw [e]
          exact x28
        rcases List.mem_cons.mp ha with e | ha
        · rw [e]
          exact x29
        rcases List.mem_cons.mp ha with e | ha
        · rw [e]
          exact x30
        rcases List.mem_cons.mp ha with e | ha
        · rw [e]
          exact x31
        rcases List.mem_cons.mp ha with e | ha
        · rw [e]
          exact x32
        rcases List.mem_cons.mp ha with e | ha
        · rw [e]
          exact x33
        exact absurd ha (List.not_mem_nil))
      have n2 := qFr_nil hG2 (fun x hx => by
        rcases List.mem_cons.mp hx with e | e
        · rw [e]
          exact (show σ2 86 16 = σ1 86 16 by omega)
        · exact absurd e (List.not_mem_nil)) (fun a ha => by
        rcases List.mem_cons.mp ha with e | ha
        · rw [e]
          exact y87
        rcases List.mem_cons.mp ha with e | ha
        · rw [e]
          exact y97
        rcases List.mem_cons.mp ha with e | ha
        · rw [e]
          exact y98
        rcases List.mem_cons.mp ha with e | ha
        · rw [e]
          exact y99
        rcases List.mem_cons.mp ha with e | ha
        · rw [e]
          exact y100
        rcases List.mem_cons.mp ha with e | ha
        · rw [e]
          exact y101
        exact absurd ha (List.not_mem_nil))
      exact ⟨by omega, qR_fr n2 (by decide) (by decide) (qR_fr n1 (by decide) (by decide) hR), qRF_fr n2 (by decide) (by decide) (qRF_fr n1 (by decide) (by decide) hF), qRH_fr n2 (by decide) (by decide) (qRH_fr n1 (by decide) (by decide) hH)⟩
    · exact False.elim (by omega)
  · skip
    rcases hy0 with ⟨⟨b1, b2, b3⟩, y97, y98, y99, y100, y101, y87⟩ | ⟨⟨b1, b2, b3, b4⟩, y97, y98, y99, y100, y101, y87⟩ | ⟨⟨b1, b2, b3, b4⟩, y97, y98, y99, y100, y101, y87⟩
    · exact False.elim (by omega)
    · exact False.elim (by omega)
    · have n16 : (σ1 86 16 : Int).toNat = (σ 27 7 : Int).toNat := by omega
      refine ⟨by omega, ?_, ?_, ?_⟩
      · obtain ⟨r1, r2, r3, r4, r5, r6, r7, r8, r9⟩ := hR
        refine ⟨?_, by omega, ?_, ?_, ?_, ?_, ?_, ?_, ?_⟩
        · rw [hG.1 17 6 (by decide), hG.1 86 6 (by decide)]; exact r1
        · rw [hG.1 34 7 (by decide), hG.1 86 24 (by decide)]; exact r3
        · rw [hG.2 18 (by decide), hG.2 91 (by decide)]; exact r4
        · rw [hG.2 19 (by decide), hG.2 92 (by decide)]; exact r5
        · rw [hG.2 21 (by decide), hG.2 93 (by decide)]; exact r6
        · rw [hG.2 46 (by decide), hG.2 122 (by decide)]; exact r7
        · rw [hG.2 45 (by decide), hG.2 47 (by decide), hG.2 121 (by decide)]; exact r8
        · rw [hG.2 46 (by decide), hG.2 48 (by decide), hG.2 123 (by decide)]; exact r9
      · obtain ⟨f1, f2, f3, f4, f5, f6⟩ := hF
        refine ⟨?_, ?_, ?_, ?_, ?_, fun f hf => ?_⟩
        · rw [hG2.2 28 (by decide), x28, y97, hG1.2 97 (by decide), f1, n16]
        · rw [hG2.2 29 (by decide), x29, y98, hG1.2 98 (by decide), f2, n16]
        · rw [hG2.2 30 (by decide), x30, y99, hG1.2 99 (by decide), f3, n16]
        · rw [hG2.2 31 (by decide), x31, y100, hG1.2 100 (by decide), f4, n16]
        · rw [hG2.2 32 (by decide), x32, y101, hG1.2 101 (by decide), f5, n16]
        · rw [y97, y98, hG1.2 97 (by decide), hG1.2 98 (by decide), hG.1 86 6 (by decide)]
          show (if f = (σ1 86 16 : Int).toNat then x1 / 100 else α 97 f) < σ 86 6 ∧ (if f = (σ1 86 16 : Int).toNat then x1 % 100 else α 98 f) < σ 86 6
          by_cases c : f = (σ1 86 16 : Int).toNat
          · rw [if_pos c, if_pos c]
            omega
          · rw [if_neg c, if_neg c]
            exact f6 f (by omega)
      · have hz : ∀ (f : Nat → Int) (a b : Nat) (x : Int), qzu f a x b = if b = a then x else f b := fun _ _ _ _ => rfl
        unfold qRH
        rw [y87, hG1.2 87 (by decide), hG.2 88 (by decide), hG.2 89 (by decide), hG.2 90 (by decide), hG.1 86 5 (by decide), hG.1 86 4 (by decide)]
        obtain ⟨m1, m2, m3, m4, m5⟩ := hH.1.1.1
        have hU : qUn α2 = qUn α := by
          unfold qUn
          rw [hG.2 38 (by decide), hG.2 39 (by decide), hG.2 40 (by decide)]
        refine ⟨qHq_new hH.1 ⟨fun k hk => ?_, fun k hk => ?_, fun k hk => ?_, fun k hk q hq => ?_, fun k hk => ?_⟩ (fun k hk => ?_) (by omega) (by omega) (by rw [hG.1 34 7 (by decide)]; exact Int.le_refl _) (hG.1 76 7 (by decide)) (hG.1 76 8 (by decide)) (hG.2 77 (by decide)) (hG.2 78 (by decide)) (hG.2 79 (by decide)) (hG.2 80 (by decide)) (fun k _ b hb => by rw [hU]; exact hb), qCh_new hH.1 (by omega) (by omega) (by omega) (Or.inr (Or.inl ⟨by omega, by omega⟩)) hH.2⟩
        · rw [hG.2 20 (by decide), hz, if_neg (by omega)]
          exact m1 k hk
        · rw [hG2.2 33 (by decide), x33, hz, hz, m2 k hk]
          by_cases c : k = (σ 27 7 : Int).toNat
          · rw [if_pos c, if_pos (by omega)]
          · rw [if_neg c, if_neg (by omega)]
        · rw [hG.2 35 (by decide), hz, if_neg (by omega)]
          exact m3 k hk
        · rw [hG.2 41 (by decide), m4 k hk q hq]
          by_cases d : q < 32
          · rw [if_pos d, if_pos d, qcw_o (by omega)]
          · rw [if_neg d, if_neg d]
        · rw [hz]
          split
          · decide
          · exact m5 k hk
        · rw [hG.2 35 (by decide), hU]
          exact hH.1.1.2 k (by rw [← hG.1 34 7 (by decide)]; exact hk)

set_option maxHeartbeats 4000000 in
theorem ro_peace {σ α σ1 α1 σ2 α2 : Nat → Nat → Int} {κ : Nat → Option Nat} {ρ : Nat} {x1 x2 x3 x4 v1 v2 : Int}  (hI : qI σ α κ ρ) (hR : qR σ α) (hP : qRP σ α) (hH : qRH σ α) (hG1 : qFr [(34, 7)] [35, 36, 37, 38, 39, 40, 41] σ α σ1 α1) (hG2 : qFr [(86, 24)] [87, 102, 103, 104, 105] σ1 α1 σ2 α2) (hx0 : ((v1 = -1 ∧ ¬ (0 ≤ x1 ∧ x1 % 10 ≤ 5 ∧ x1 / 10 < σ 17 6 ∧ 0 ≤ x2 ∧ x2 ≤ 4294967295 ∧ 0 ≤ x3 ∧ x3 / 10000 ≤ x3 % 10000 ∧ x3 % 10000 ≤ 2399 ∧ 0 ≤ x4 ∧ x4 ≤ 240) ∧ σ1 34 7 = σ 34 7) ∧ α1 35 = α 35 ∧ α1 36 = α 36 ∧ α1 37 = α 37 ∧ α1 38 = α 38 ∧ α1 39 = α 39 ∧ α1 40 = α 40 ∧ α1 41 = α 41) ∨ ((v1 = -3 ∧ (0 ≤ x1 ∧ x1 % 10 ≤ 5 ∧ x1 / 10 < σ 17 6 ∧ 0 ≤ x2 ∧ x2 ≤ 4294967295 ∧ 0 ≤ x3 ∧ x3 / 10000 ≤ x3 % 10000 ∧ x3 % 10000 ≤ 2399 ∧ 0 ≤ x4 ∧ x4 ≤ 240) ∧ 60 ≤ σ 34 7 ∧ σ1 34 7 = σ 34 7) ∧ α1 35 = α 35 ∧ α1 36 = α 36 ∧ α1 37 = α 37 ∧ α1 38 = α 38 ∧ α1 39 = α 39 ∧ α1 40 = α 40 ∧ α1 41 = α 41) ∨ ((v1 = σ 34 7 ∧ (0 ≤ x1 ∧ x1 % 10 ≤ 5 ∧ x1 / 10 < σ 17 6 ∧ 0 ≤ x2 ∧ x2 ≤ 4294967295 ∧ 0 ≤ x3 ∧ x3 / 10000 ≤ x3 % 10000 ∧ x3 % 10000 ≤ 2399 ∧ 0 ≤ x4 ∧ x4 ≤ 240) ∧ σ 34 7 < 60 ∧ σ1 34 7 = σ 34 7 + 1) ∧ α1 35 = qzu (α 35) (σ 34 7 : Int).toNat (x1 % 10) ∧ α1 36 = qzu (α 36) (σ 34 7 : Int).toNat (x1 / 10) ∧ α1 37 = qzu (α 37) (σ 34 7 : Int).toNat (x3 / 10000) ∧ α1 38 = qzu (α 38) (σ 34 7 : Int).toNat (x3 % 10000) ∧ α1 39 = qzu (α 39) (σ 34 7 : Int).toNat (x4) ∧ α1 40 = qzu (α 40) (σ 34 7 : Int).toNat (x3 % 10000 + (if x1 % 10 = 2 then x4 else 0)) ∧ α1 41 = qzu (α 41) (σ 34 7 : Int).toNat (x2))) (hy0 : ((v2 = -1 ∧ ¬ (0 ≤ x1 ∧ x1 % 10 ≤ 5 ∧ x1 / 10 < σ1 86 6 ∧ 0 ≤ x2 ∧ x2 ≤ 4294967295 ∧ 0 ≤ x3 ∧ x3 / 10000 ≤ x3 % 10000 ∧ x3 % 10000 ≤ 2399 ∧ 0 ≤ x4 ∧ x4 ≤ 240) ∧ σ2 86 24 = σ1 86 24 ∧ α2 102 = α1 102 ∧ α2 103 = α1 103 ∧ α2 104 = α1 104 ∧ α2 105 = α1 105 ∧ α2 87 = α1 87) ∨ (v2 = -3 ∧ (0 ≤ x1 ∧ x1 % 10 ≤ 5 ∧ x1 / 10 < σ1 86 6 ∧ 0 ≤ x2 ∧ x2 ≤ 4294967295 ∧ 0 ≤ x3 ∧ x3 / 10000 ≤ x3 % 10000 ∧ x3 % 10000 ≤ 2399 ∧ 0 ≤ x4 ∧ x4 ≤ 240) ∧ 60 ≤ σ1 86 24 ∧ σ2 86 24 = σ1 86 24 ∧ α2 102 = α1 102 ∧ α2 103 = α1 103 ∧ α2 104 = α1 104 ∧ α2 105 = α1 105 ∧ α2 87 = α1 87) ∨ (v2 = σ1 86 24 ∧ (0 ≤ x1 ∧ x1 % 10 ≤ 5 ∧ x1 / 10 < σ1 86 6 ∧ 0 ≤ x2 ∧ x2 ≤ 4294967295 ∧ 0 ≤ x3 ∧ x3 / 10000 ≤ x3 % 10000 ∧ x3 % 10000 ≤ 2399 ∧ 0 ≤ x4 ∧ x4 ≤ 240) ∧ σ1 86 24 < 60 ∧ σ2 86 24 = σ1 86 24 + 1 ∧ α2 102 = qzu (α1 102) (σ1 86 24 : Int).toNat (x1 / 10) ∧ α2 103 = qzu (α1 103) (σ1 86 24 : Int).toNat (x3 / 10000) ∧ α2 104 = qzu (α1 104) (σ1 86 24 : Int).toNat (x3 % 10000) ∧ α2 105 = qzu (α1 105) (σ1 86 24 : Int).toNat x4 ∧ ∃ c1 c2 : Int, α2 87 = qzu (qzu (qzu (α1 87) (192 + σ1 86 24 : Int).toNat (x1 % 10)) (72 + 2 * σ1 86 24 : Int).toNat c1) (72 + 2 * σ1 86 24 + 1 : Int).toNat c2 ∧ ((-2147483648 ≤ c1 ∧ c1 ≤ 2147483647) ∧ (-2147483648 ≤ c2 ∧ c2 ≤ 2147483647)) ∧ ∀ j : Int, (0 ≤ j ∧ j < 16) → qbi c1 j = qbit x2 j ∧ qbi c2 j = qbit x2 (16 + j))))  : v1 = v2 ∧ qR σ2 α2 ∧ qRP σ2 α2 ∧ qRH σ2 α2 := by
  have b6 : 0 ≤ σ 86 6 ∧ σ 86 6 ≤ 32 := hI.1 86 6
  have b16 : 0 ≤ σ 86 16 ∧ σ 86 16 ≤ 40 := hI.1 86 16
  have b24 : 0 ≤ σ 86 24 ∧ σ 86 24 ≤ 60 := hI.1 86 24
  have e6 := hR.1
  have e16 := hR.2.1
  have e24 := hR.2.2.1
  have c6 : σ1 86 6 = σ 86 6 := hG1.1 86 6 (by decide)
  have c24 : σ1 86 24 = σ 86 24 := hG1.1 86 24 (by decide)
  have d34 : σ2 34 7 = σ1 34 7 := hG2.1 34 7 (by decide)
  have hG : qFr [(34, 7), (86, 24)] [35, 36, 37, 38, 39, 40, 41, 87, 102, 103, 104, 105] σ α σ2 α2 := qFr_tr hG1 hG2
  rcases hx0 with ⟨⟨a1, a2, a3⟩, x35, x36, x37, x38, x39, x40, x41⟩ | ⟨⟨a1, a2, a3, a4⟩, x35, x36, x37, x38, x39, x40, x41⟩ | ⟨⟨a1, a2, a3, a4⟩, x35, x36, x37, x38, x39, x40, x41⟩
  · skip
    rcases hy0 with ⟨b1, b2, b3, y102, y103, y104, y105, y87⟩ | ⟨b1, b2, b3, b4, y102, y103, y104, y105, y87⟩ | ⟨b1, b2, b3, b4, y102, y103, y104, y105, c1, c2, y87, yr, yc⟩
    · have n1 := qFr_nil hG1 (fun x hx => by
        rcases List.mem_cons.mp hx with e | e
        · rw [e]
          exact (show σ1 34 7 = σ 34 7 by omega)
        · exact absurd e (List.not_mem_nil)) (fun a ha => by
        rcases List.mem_cons.mp ha with e | ha
        · rw [e]
          exact x35
        rcases List.mem_cons.mp ha with e | ha
        · rw [e]
          exact x36
        rcases List.mem_cons.mp ha with e | ha
        · rw [e]
          exact x37
        rcases List.mem_cons.mp ha with e | ha
        · rw [e]
          exact x38
        rcases List.mem_cons.mp ha with e | ha
        · rw [e]
          exact x39
        rcases List.mem_cons.mp ha with e | ha
        · rw [e]
          exact x40
        rcases List.mem_cons.mp ha with e | ha
        · rw [e]
          exact x41
        exact absurd ha (List.not_mem_nil))
      have n2 := qFr_nil hG2 (fun x hx => by
        rcases List.mem_cons.mp hx with e | e
        · rw [e]
          exact (show σ2 86 24 = σ1 86 24 by omega)
        · exact absurd e (List.not_mem_nil)) (fun a ha => by
        rcases List.mem_cons.mp ha with e | ha
        · rw [e]
          exact y87
        rcases List.mem_cons.mp ha with e | ha
        · rw [e]
          exact y102
        rcases List.mem_cons.mp ha with e | ha
        · rw [e]
          exact y103
        rcases List.mem_cons.mp ha with e | ha
        · rw [e]
          exact y104
        rcases List.mem_cons.mp ha with e | ha
        · rw [e]
          exact y105
        exact absurd ha (List.not_mem_nil))
      exact ⟨by omega, qR_fr n2 (by decide) (by decide) (qR_fr n1 (by decide) (by decide) hR), qRP_fr n2 (by decide) (by decide) (qRP_fr n1 (by decide) (by decide) hP), qRH_fr n2 (by decide) (by decide) (qRH_fr n1 (by decide) (by decide) hH)⟩
    · exact False.elim (by omega)
    · exact False.elim (by omega)
  · skip
    rcases hy0 with ⟨b1, b2, b3, y102, y103, y104, y105, y87⟩ | ⟨b1, b2, b3, b4, y102, y103, y104, y105, y87⟩ | ⟨b1, b2, b3, b4, y102, y103, y104, y105, c1, c2, y87, yr, yc⟩
    · exact False.elim (by omega)
    · have n1 := qFr_nil hG1 (fun x hx => by
        rcases List.mem_cons.mp hx with e | e
        · rw [e]
          exact (show σ1 34 7 = σ 34 7 by omega)
        · exact absurd e (List.not_mem_nil)) (fun a ha => by
        rcases List.mem_cons.mp ha with e | ha
        · rw [e]
          exact x35
        rcases List.mem_cons.mp ha with e | ha
        · rw [e]
          exact x36
        rcases List.mem_cons.mp ha with e | ha
        · rw [e]
          exact x37
        rcases List.mem_cons.mp ha with e | ha
        · rw [e]
          exact x38
        rcases List.mem_cons.mp ha with e | ha
        · rw [e]
          exact x39
        rcases List.mem_cons.mp ha with e | ha
        · rw [e]
          exact x40
        rcases List.mem_cons.mp ha with e | ha
        · rw [e]
          exact x41
        exact absurd ha (List.not_mem_nil))
      have n2 := qFr_nil hG2 (fun x hx => by
        rcases List.mem_cons.mp hx with e | e
        · rw [e]
          exact (show σ2 86 24 = σ1 86 24 by omega)
        · exact absurd e (List.not_mem_nil)) (fun a ha => by
        rcases List.mem_cons.mp ha with e | ha
        · rw [e]
          exact y87
        rcases List.mem_cons.mp ha with e | ha
        · rw [e]
          exact y102
        rcases List.mem_cons.mp ha with e | ha
        · rw [e]
          exact y103
        rcases List.mem_cons.mp ha with e | ha
        · rw [e]
          exact y104
        rcases List.mem_cons.mp ha with e | ha
        · rw [e]
          exact y105
        exact absurd ha (List.not_mem_nil))
      exact ⟨by omega, qR_fr n2 (by decide) (by decide) (qR_fr n1 (by decide) (by decide) hR), qRP_fr n2 (by decide) (by decide) (qRP_fr n1 (by decide) (by decide) hP), qRH_fr n2 (by decide) (by decide) (qRH_fr n1 (by decide) (by decide) hH)⟩
    · exact False.elim (by omega)
  · skip
    rcases hy0 with ⟨b1, b2, b3, y102, y103, y104, y105, y87⟩ | ⟨b1, b2, b3, b4, y102, y103, y104, y105, y87⟩ | ⟨b1, b2, b3, b4, y102, y103, y104, y105, c1, c2, y87, yr, yc⟩
    · exact False.elim (by omega)
    · exact False.elim (by omega)
    · have n24 : (σ1 86 24 : Int).toNat = (σ 34 7 : Int).toNat := by omega
      have hz : ∀ (f : Nat → Int) (a b : Nat) (x : Int), qzu f a x b = if b = a then x else f b := fun _ _ _ _ => rfl
      refine ⟨by omega, ?_, ?_, ?_⟩
      · obtain ⟨r1, r2, r3, r4, r5, r6, r7, r8, r9⟩ := hR
        refine ⟨?_, ?_, by omega, ?_, ?_, ?_, ?_, ?_, ?_⟩
        · rw [hG.1 17 6 (by decide), hG.1 86 6 (by decide)]; exact r1
        · rw [hG.1 27 7 (by decide), hG.1 86 16 (by decide)]; exact r2
        · rw [hG.2 18 (by decide), hG.2 91 (by decide)]; exact r4
        · rw [hG.2 19 (by decide), hG.2 92 (by decide)]; exact r5
        · rw [hG.2 21 (by decide), hG.2 93 (by decide)]; exact r6
        · rw [hG.2 46 (by decide), hG.2 122 (by decide)]; exact r7
        · rw [hG.2 45 (by decide), hG.2 47 (by decide), hG.2 121 (by decide)]; exact r8
        · rw [hG.2 46 (by decide), hG.2 48 (by decide), hG.2 123 (by decide)]; exact r9
      · obtain ⟨p1, p2, p3, p4, p5⟩ := hP
        refine ⟨?_, ?_, ?_, ?_, fun k hk => ?_⟩
        · rw [hG2.2 36 (by decide), x36, y102, hG1.2 102 (by decide), p1, n24]
        · rw [hG2.2 37 (by decide), x37, y103, hG1.2 103 (by decide), p2, n24]
        · rw [hG2.2 38 (by decide), x38, y104, hG1.2 104 (by decide), p3, n24]
        · rw [hG2.2 39 (by decide), x39, y105, hG1.2 105 (by decide), p4, n24]
        · rw [y104, y105, hG1.2 104 (by decide), hG1.2 105 (by decide), hz, hz]
          by_cases c : k = (σ1 86 24 : Int).toNat
          · rw [if_pos c, if_pos c]
            omega
          · rw [if_neg c, if_neg c]
            exact p5 k (by omega)
      · unfold qRH
        rw [y87, hG1.2 87 (by decide), hG.2 88 (by decide), hG.2 89 (by decide), hG.2 90 (by decide), hG.1 86 5 (by decide), hG.1 86 4 (by decide)]
        obtain ⟨m1, m2, m3, m4, m5⟩ := hH.1.1.1
        have hn : ∀ j : Nat, (j : Int) < σ 34 7 → α2 38 j = α 38 j ∧ α2 39 j = α 39 j ∧ α2 40 j = α 40 j ∧ α2 35 j = α 35 j := fun j hj => by
          rw [hG2.2 38 (by decide), hG2.2 39 (by decide), hG2.2 40 (by decide), hG2.2 35 (by decide), x38, x39, x40, x35, hz, hz, hz, hz, if_neg (by omega), if_neg (by omega), if_neg (by omega), if_neg (by omega)]
          exact ⟨rfl, rfl, rfl, rfl⟩
        have hU : ∀ j : Nat, (j : Int) < σ 34 7 → ∀ b : Int, qUn α j b → qUn α2 j b := fun j hj b hb => by
          have h4 := hn j hj
          unfold qUn at hb ⊢
          rw [h4.1, h4.2.1, h4.2.2.1]
          exact hb
        have hr1 := fun j : Int => fun h1 : 0 ≤ j ∧ j < 16 => yc j h1
        have hc0 : qCh (qzu (qzu (qzu (α 87) (192 + σ1 86 24 : Int).toNat (x1 % 10)) (72 + 2 * σ1 86 24 : Int).toNat c1) (72 + 2 * σ1 86 24 + 1 : Int).toNat c2, α 88, α 89, α 90, σ 86 5, σ 86 4) :=
          qCh_new hH.1 (by omega) (by omega) (by omega) (Or.inr (Or.inr (Or.inl ⟨by omega, by omega⟩))) (qCh_new hH.1 (by omega) (by omega) (by omega) (Or.inr (Or.inr (Or.inl ⟨by omega, by omega⟩))) (qCh_new hH.1 (by omega) (by omega) (by omega) (Or.inr (Or.inr (Or.inr (by omega)))) hH.2))
        refine ⟨qHq_new hH.1 ⟨fun k hk => ?_, fun k hk => ?_, fun k hk => ?_, fun k hk q hq => ?_, fun k hk => ?_⟩ (fun k hk => ?_) (by rw [hG.1 17 6 (by decide)]; exact Int.le_refl _) (by rw [hG.1 27 7 (by decide)]; exact Int.le_refl _) (by omega) (hG.1 76 7 (by decide)) (hG.1 76 8 (by decide)) (hG.2 77 (by decide)) (hG.2 78 (by decide)) (hG.2 79 (by decide)) (hG.2 80 (by decide)) hU, hc0⟩
        · rw [hG.2 20 (by decide), hz, hz, hz, if_neg (by omega), if_neg (by omega), if_neg (by omega)]
          exact m1 k hk
        · rw [hG.2 33 (by decide), hz, hz, hz, if_neg (by omega), if_neg (by omega), if_neg (by omega)]
          exact m2 k hk
        · rw [hG2.2 35 (by decide), x35, hz, hz, hz, hz, if_neg (show ¬ 192 + k = (72 + 2 * σ1 86 24 + 1 : Int).toNat by omega), if_neg (show ¬ 192 + k = (72 + 2 * σ1 86 24 : Int).toNat by omega), m3 k hk]
          by_cases c : k = (σ 34 7 : Int).toNat
          · rw [if_pos c, if_pos (by omega)]
          · rw [if_neg c, if_neg (by omega)]
        · rw [hG2.2 41 (by decide), x41, hz]
          have m := m4 k hk q hq
          have hq' : qcw (qzu (qzu (qzu (α 87) (192 + σ1 86 24 : Int).toNat (x1 % 10)) (72 + 2 * σ1 86 24 : Int).toNat c1) (72 + 2 * σ1 86 24 + 1 : Int).toNat c2) k q = qbi (qzu (qzu (qzu (α 87) (192 + σ1 86 24 : Int).toNat (x1 % 10)) (72 + 2 * σ1 86 24 : Int).toNat c1) (72 + 2 * σ1 86 24 + 1 : Int).toNat c2 (72 + 2 * k + (q / 16).toNat)) (q % 16) := rfl
          rw [hq', hz, hz, hz]
          by_cases c : k = (σ 34 7 : Int).toNat
          · rw [if_pos c]
            by_cases d : q < 32
            · rw [if_pos d]
              by_cases e : q < 16
              · rw [if_neg (by omega), if_pos (by omega), show q % 16 = q by omega]
                exact (yc q ⟨hq.1, e⟩).1.symm
              · rw [if_pos (by omega), show q % 16 = q - 16 by omega]
                have h5 := (yc (q - 16) ⟨by omega, by omega⟩).2
                rw [h5]
                congr 1
                omega
            · rw [if_neg d]
              have h6 : qlu x2 < 2 ^ 32 := by
                have h7 := qlu_nn (a := x2) ⟨by omega, by omega⟩
                rw [show (2 : Nat) ^ 32 = 4294967296 by decide]
                omega
              rw [qbit_if, Nat.testBit_lt_two_pow (Nat.lt_of_lt_of_le h6 (Nat.pow_le_pow_right (by decide) (show 32 ≤ q.toNat by omega)))]
              rfl
          · rw [if_neg c, m]
            by_cases d : q < 32
            · rw [if_pos d, if_pos d, if_neg (by omega), if_neg (by omega), if_neg (by omega)]
              rfl
            · rw [if_neg d, if_neg d]
        · rw [hz, hz, hz]
          split
          · exact yr.2
          · split
            · exact yr.1
            · split
              · omega
              · exact m5 k hk
        · by_cases c : (k : Int) < σ 34 7
          · have h4 := hn k c
            rw [h4.2.2.2]
            rcases hH.1.1.2 k c with hu | hu
            · exact Or.inl hu
            · exact Or.inr ⟨hu.1, hU k c _ hu.2⟩
          · have hk2 : k = (σ 34 7 : Int).toNat := by omega
            refine Or.inr ?_
            unfold qUn
            rw [hG2.2 35 (by decide), hG2.2 38 (by decide), hG2.2 39 (by decide), hG2.2 40 (by decide), x35, x38, x39, x40, hz, hz, hz, hz, if_pos hk2, if_pos hk2, if_pos hk2, if_pos hk2]
            exact ⟨by omega, rfl⟩
