set_option maxHeartbeats 4000000 in
theorem ro_strike {σ α σ1 α1 σ2 α2 : Nat → Nat → Int} {κ : Nat → Option Nat} {ρ : Nat} {x1 x2 x3 x4 v1 v2 : Int} {f0 f1 g0 g1 : (Nat → Int) → Int} (hA0 : qAg f0 g0) (hA1 : qAg f1 g1) (hI : qI σ α κ ρ) (hR : qR σ α) (hK : qR2 σ α) (hF : qRF σ α) (hP : qRP σ α) (hH : qRH σ α) (hL : qRL σ α) (hN : qRN σ α) (hT : qRT σ α) (hW : qRS σ α) (hG1 : qFr [(17, 5), (58, 10), (58, 11), (58, 12), (70, 2), (70, 3), (70, 5), (70, 6), (76, 7), (76, 8)] [20, 33, 35, 41, 53, 57, 59, 60, 61, 62, 63, 71, 72, 77, 78, 79, 80, 85] σ α σ1 α1) (hG2 : qFr [(86, 4), (86, 5), (86, 10), (86, 15), (86, 23), (86, 29), (86, 30), (86, 35), (86, 36), (86, 37), (86, 38), (86, 39), (86, 50), (86, 51)] [87, 88, 89, 90, 96, 109, 115, 116] σ1 α1 σ2 α2) (hx0 : ((v1 = -1 ∧ ¬ (0 ≤ x1 ∧ x1 / 100 < σ 17 6 ∧ x1 % 100 < σ 17 6 ∧ ¬ x1 / 100 = x1 % 100 ∧ qst x2 (σ 17 6) ∧ 0 ≤ x3 ∧ x3 ≤ 2399 ∧ 0 ≤ x4 ∧ x4 ≤ 1 ∧ qbit (ql_and x2 (ql_xor (σ 17 5) (-1))) (x1 / 100) = 1 ∧ qbit (ql_and x2 (ql_xor (σ 17 5) (-1))) (x1 % 100) = 1) ∧ qHq σ1 α1 ((α 87, α 88, α 89, α 90, σ 86 5, σ 86 4) : qHS) ∧ σ1 70 2 = σ 70 2 ∧ σ1 70 3 = σ 70 3 ∧ α1 71 = α 71 ∧ σ1 17 5 = σ 17 5) ∨ ((0 ≤ x1 ∧ x1 / 100 < σ 17 6 ∧ x1 % 100 < σ 17 6 ∧ ¬ x1 / 100 = x1 % 100 ∧ qst x2 (σ 17 6) ∧ 0 ≤ x3 ∧ x3 ≤ 2399 ∧ 0 ≤ x4 ∧ x4 ≤ 1 ∧ qbit (ql_and x2 (ql_xor (σ 17 5) (-1))) (x1 / 100) = 1 ∧ qbit (ql_and x2 (ql_xor (σ 17 5) (-1))) (x1 % 100) = 1) ∧ v1 = ((qFINc σ α f0 f1 x3 (ql_and x2 (ql_xor (σ 17 5) (-1))) x1).1.length : Int) ∧ qTd σ1 α1 70 (qFINc σ α f0 f1 x3 (ql_and x2 (ql_xor (σ 17 5) (-1))) x1) ∧ ((x4 = 0 ∧ σ1 17 5 = σ 17 5 ∧ qHq σ1 α1 ((α 87, α 88, α 89, α 90, σ 86 5, σ 86 4) : qHS)) ∨ (x4 = 1 ∧ σ1 17 5 = ql_or (σ 17 5) (ql_and (ql_and x2 (ql_xor (σ 17 5) (-1))) (ql_xor (qFINc σ α f0 f1 x3 (ql_and x2 (ql_xor (σ 17 5) (-1))) x1).2.1 (-1))) ∧ qHq σ1 α1 (qkn (qFINc σ α f0 f1 x3 (ql_and x2 (ql_xor (σ 17 5) (-1))) x1).2.2.2 ((α 87, α 88, α 89, α 90, σ 86 5, σ 86 4) : qHS))))))) (hx1 : (∀ c : Nat, c < 496 → α1 61 c ≤ σ1 58 12)) (hx2 : (∀ c : Nat, c < 496 → α1 63 c ≤ σ1 58 12)) (hx3 : (0 ≤ σ1 58 12 ∧ σ1 58 12 ≤ σ 58 12 + 1)) (hx4 : σ1 58 10 = 0) (hy0 : ((v2 = -1 ∧ ¬ (0 ≤ x1 ∧ x1 / 100 < σ1 86 6 ∧ x1 % 100 < σ1 86 6 ∧ ¬ x1 / 100 = x1 % 100 ∧ qst x2 (σ1 86 6) ∧ 0 ≤ x3 ∧ x3 ≤ 2399 ∧ 0 ≤ x4 ∧ x4 ≤ 1 ∧ qbit (ql_and x2 (ql_xor (σ1 86 10) (-1))) (x1 / 100) = 1 ∧ qbit (ql_and x2 (ql_xor (σ1 86 10) (-1))) (x1 % 100) = 1) ∧ α2 87 = α1 87 ∧ α2 88 = α1 88 ∧ α2 89 = α1 89 ∧ α2 90 = α1 90 ∧ σ2 86 5 = σ1 86 5 ∧ σ2 86 4 = σ1 86 4 ∧ σ2 86 10 = σ1 86 10 ∧ σ2 86 50 = σ1 86 50 ∧ σ2 86 51 = σ1 86 51 ∧ α2 115 = α1 115 ∧ α2 116 = α1 116 ∧ σ2 86 29 = σ1 86 29) ∨ ((0 ≤ x1 ∧ x1 / 100 < σ1 86 6 ∧ x1 % 100 < σ1 86 6 ∧ ¬ x1 / 100 = x1 % 100 ∧ qst x2 (σ1 86 6) ∧ 0 ≤ x3 ∧ x3 ≤ 2399 ∧ 0 ≤ x4 ∧ x4 ≤ 1 ∧ qbit (ql_and x2 (ql_xor (σ1 86 10) (-1))) (x1 / 100) = 1 ∧ qbit (ql_and x2 (ql_xor (σ1 86 10) (-1))) (x1 % 100) = 1) ∧ v2 = ((qFINm σ1 α1 g0 g1 x3 (ql_and x2 (ql_xor (σ1 86 10) (-1))) x1).1.length : Int) ∧ qTe σ2 α2 (qFINm σ1 α1 g0 g1 x3 (ql_and x2 (ql_xor (σ1 86 10) (-1))) x1) ∧ ((x4 = 0 ∧ σ2 86 10 = σ1 86 10 ∧ (α2 87 = α1 87 ∧ α2 88 = α1 88 ∧ α2 89 = α1 89 ∧ α2 90 = α1 90 ∧ σ2 86 5 = σ1 86 5 ∧ σ2 86 4 = σ1 86 4) ∧ σ2 86 29 = 0) ∨ (x4 = 1 ∧ σ2 86 10 = ql_or (σ1 86 10) (ql_and (ql_and x2 (ql_xor (σ1 86 10) (-1))) (ql_xor (qFINm σ1 α1 g0 g1 x3 (ql_and x2 (ql_xor (σ1 86 10) (-1))) x1).2.1 (-1))) ∧ ((α2 87, α2 88, α2 89, α2 90, σ2 86 5, σ2 86 4) : qHS) = qkn (qFINm σ1 α1 g0 g1 x3 (ql_and x2 (ql_xor (σ1 86 10) (-1))) x1).2.2.2 ((α1 87, α1 88, α1 89, α1 90, σ1 86 5, σ1 86 4) : qHS) ∧ σ2 86 29 = 0)))))  : v1 = v2 ∧ qRH σ2 α2 ∧ qRN σ2 α2 ∧ qRT σ2 α2 := by
  have b6 : 0 ≤ σ 86 6 ∧ σ 86 6 ≤ 32 := hI.1 86 6
  have b16 : 0 ≤ σ 86 16 ∧ σ 86 16 ≤ 40 := hI.1 86 16
  have b24 : 0 ≤ σ 86 24 ∧ σ 86 24 ≤ 60 := hI.1 86 24
  have e6 := hR.1
  have e16 := hR.2.1
  have e24 := hR.2.2.1
  have c6 : σ1 86 6 = σ 86 6 := hG1.1 86 6 (by decide)
  have c10 : σ1 86 10 = σ 86 10 := hG1.1 86 10 (by decide)
  have n5 := hN.1
  have cF := qFINm_fr hG1 (by decide) (by decide)
  rw [e6, n5] at hx0
  rw [c6, c10, cF] at hy0
  have t22 : σ2 86 22 = 0 := (hG2.1 86 22 (by decide)).trans ((hG1.1 86 22 (by decide)).trans hN.2.2.2.1)
  have t41 : σ2 86 41 = 0 := (hG2.1 86 41 (by decide)).trans ((hG1.1 86 41 (by decide)).trans hN.2.2.2.2.2)
  have t27 : σ2 27 6 = 0 := (hG2.1 27 6 (by decide)).trans ((hG1.1 27 6 (by decide)).trans hN.2.1)
  have t10 : σ2 58 10 = 0 := (hG2.1 58 10 (by decide)).trans hx4
  have d5 : σ2 17 5 = σ1 17 5 := hG2.1 17 5 (by decide)
  have d72 : σ2 70 2 = σ1 70 2 := hG2.1 70 2 (by decide)
  have d73 : σ2 70 3 = σ1 70 3 := hG2.1 70 3 (by decide)
  have d71 : α2 71 = α1 71 := hG2.2 71 (by decide)
  have c29 : σ1 86 29 = σ 86 29 := hG1.1 86 29 (by decide)
  rcases hx0 with ⟨a1, a2, a3, a4, a5, a6, a7⟩ | ⟨a1, a2, a3, a4⟩
  · rcases hy0 with ⟨b1, b2, b3, b4, b5, b6', b7, b8, b9, b10, b11, b12, b13, b14⟩ | ⟨b1, b2, b3, b4⟩
    · refine ⟨by omega, ro_cs hH hG1 (by decide) (by decide) hG2 (by decide) (by decide) a3 ⟨b3, b4, b5, b6', b7, b8⟩, ?_, ?_⟩
      · exact ⟨by omega, t27, t10, t22, b14.trans (c29.trans hN.2.2.2.2.1), t41⟩
      · obtain ⟨q1, q2, q3⟩ := hT
        have c50 : σ1 86 50 = σ 86 50 := hG1.1 86 50 (by decide)
        have c51 : σ1 86 51 = σ 86 51 := hG1.1 86 51 (by decide)
        refine ⟨by omega, fun i hi => ?_, by omega⟩
        rw [d71, a6, b12, b13, hG1.2 115 (by decide), hG1.2 116 (by decide)]
        exact q2 i (by omega)
    · exact absurd b1 a2
  · rcases hy0 with ⟨b1, b2, b3⟩ | ⟨b1, b2, b3, b4⟩
    · exact absurd a1 b2
    · have ht := qrr_t hI hR hK hF hP hH hL hN hW hA0 hA1 (h := x3) (LV := (ql_and x2 (ql_xor (σ 86 10) (-1)))) (v := x1) ⟨⟨by omega, by omega⟩, ⟨by omega, by omega⟩, a1.2.2.2.1⟩
      rw [ht] at a2 a3 a4
      have hlen : 1 ≤ (qFINm σ α g0 g1 x3 (ql_and x2 (ql_xor (σ 86 10) (-1))) x1).1.length := by
        unfold qFINm
        exact Nat.le_trans (show 1 ≤ (qland (qHr σ α x3) (qBm σ α) (σ 86 24 : Int).toNat ([], (ql_and x2 (ql_xor (σ 86 10) (-1))), 0, []) x1).1.length from Nat.le_refl 1) (qtell_len 30 _)
      refine ⟨by omega, ?_, ?_, ?_⟩
      · rcases a4 with ⟨x4a, x4b, x4c⟩ | ⟨x4a, x4b, x4c⟩
        · rcases b4 with ⟨y4a, y4b, y4c, _⟩ | ⟨y4a, _⟩
          · exact ro_cs hH hG1 (by decide) (by decide) hG2 (by decide) (by decide) x4c y4c
          · exact False.elim (by omega)
        · rcases b4 with ⟨y4a, _⟩ | ⟨y4a, y4b, y4c, _⟩
          · exact False.elim (by omega)
          · rw [hG1.2 87 (by decide), hG1.2 88 (by decide), hG1.2 89 (by decide), hG1.2 90 (by decide), hG1.1 86 5 (by decide), hG1.1 86 4 (by decide)] at y4c
            unfold qRH
            rw [y4c]
            exact ⟨qHq_fr hG2 (by decide) (by decide) x4c, qCh_kn _ _ ⟨hH.1.2.2.1.1, Int.le_trans hH.1.2.2.1.2.1 hH.1.2.2.1.2.2⟩ hH.2⟩
      · rcases a4 with ⟨x4a, x4b, x4c⟩ | ⟨x4a, x4b, x4c⟩
        · rcases b4 with ⟨y4a, y4b, y4c, y4d⟩ | ⟨y4a, _⟩
          · exact ⟨by omega, t27, t10, t22, y4d, t41⟩
          · exact False.elim (by omega)
        · rcases b4 with ⟨y4a, _⟩ | ⟨y4a, y4b, y4c, y4d⟩
          · exact False.elim (by omega)
          · exact ⟨by rw [d5, x4b, y4b], t27, t10, t22, y4d, t41⟩
      · have h1 := a3.1.1
        have h2 := b3.1.1
        refine ⟨by omega, fun i hi => ?_, Or.inr ⟨by omega, ?_⟩⟩
        · have h3 := a3.1.2 i (by omega)
          have h4 := b3.1.2 i (by omega)
          have h3' : α1 71 i = (qFINm σ α g0 g1 x3 (ql_and x2 (ql_xor (σ 86 10) (-1))) x1).1[i]'(by omega) := h3
          rw [d71, h3', h4.1, h4.2]
          omega
        · rw [d73, a3.2.1, b3.2]

set_option maxHeartbeats 4000000 in
theorem ro_worst {σ α σ1 α1 σ2 α2 : Nat → Nat → Int} {κ : Nat → Option Nat} {ρ : Nat} {x1 x2 v1 v2 : Int} {f0 f1 g0 g1 : (Nat → Int) → Int} (hA0 : qAg f0 g0) (hA1 : qAg f1 g1) (hI : qI σ α κ ρ) (hR : qR σ α) (hK : qR2 σ α) (hF : qRF σ α) (hP : qRP σ α) (hH : qRH σ α) (hL : qRL σ α) (hN : qRN σ α) (hT : qRT σ α) (hW : qRS σ α) (hG1 : qFr [(58, 10), (58, 11), (58, 12), (73, 2), (73, 3), (73, 5), (73, 6)] [53, 57, 59, 60, 61, 62, 63, 74, 75, 85] σ α σ1 α1) (hG2 : qFr [(86, 10), (86, 15), (86, 23), (86, 29), (86, 30), (86, 35), (86, 36), (86, 37), (86, 38), (86, 39), (86, 50), (86, 51)] [96, 109, 115, 116, 117, 118] σ1 α1 σ2 α2) (hx0 : ((v1 = -1 ∧ ¬ (qst x1 (σ 17 6) ∧ 0 ≤ x2 ∧ x2 ≤ 2399)) ∨ ((qst x1 (σ 17 6) ∧ 0 ≤ x2 ∧ x2 ≤ 2399) ∧ qwF (fun u : Int => 0 ≤ u ∧ u / 100 < σ 17 6 ∧ u % 100 < σ 17 6 ∧ ¬ u / 100 = u % 100 ∧ qbit (ql_and x1 (ql_xor (σ 17 5) (-1))) (u / 100) = 1 ∧ qbit (ql_and x1 (ql_xor (σ 17 5) (-1))) (u % 100) = 1) (fun u : Int => qcn (qFINc σ α f0 f1 x2 (ql_and x1 (ql_xor (σ 17 5) (-1))) u).2.1 64) v1))) (hx1 : (∀ c : Nat, c < 496 → α1 61 c ≤ σ1 58 12)) (hx2 : (∀ c : Nat, c < 496 → α1 63 c ≤ σ1 58 12)) (hx3 : (0 ≤ σ1 58 12 ∧ σ1 58 12 ≤ σ 58 12 + 1)) (hx4 : σ1 58 10 = 0) (hy0 : ((v2 = -1 ∧ ¬ (qst x1 (σ1 86 6) ∧ 0 ≤ x2 ∧ x2 ≤ 2399)) ∨ ((qst x1 (σ1 86 6) ∧ 0 ≤ x2 ∧ x2 ≤ 2399) ∧ qwF (fun u : Int => 0 ≤ u ∧ u / 100 < σ1 86 6 ∧ u % 100 < σ1 86 6 ∧ ¬ u / 100 = u % 100 ∧ qbit (ql_and x1 (ql_xor (σ1 86 10) (-1))) (u / 100) = 1 ∧ qbit (ql_and x1 (ql_xor (σ1 86 10) (-1))) (u % 100) = 1) (fun u : Int => qcn (qFINm σ1 α1 g0 g1 x2 (ql_and x1 (ql_xor (σ1 86 10) (-1))) u).2.1 64) v2))) (hy1 : (∀ j : Nat, (j : Int) < 31 → α2 115 j = α1 115 j)) (hy2 : (∀ j : Nat, (j : Int) < 31 → α2 116 j = α1 116 j)) (hy3 : σ2 86 10 = σ1 86 10) (hy4 : σ2 86 29 = 0) (hy5 : σ2 86 50 = σ1 86 50) (hy6 : σ2 86 51 = σ1 86 51)  : v1 = v2 ∧ qRN σ2 α2 ∧ qRT σ2 α2 := by
  have b6 : 0 ≤ σ 86 6 ∧ σ 86 6 ≤ 32 := hI.1 86 6
  have b16 : 0 ≤ σ 86 16 ∧ σ 86 16 ≤ 40 := hI.1 86 16
  have b24 : 0 ≤ σ 86 24 ∧ σ 86 24 ≤ 60 := hI.1 86 24
  have e6 := hR.1
  have e16 := hR.2.1
  have e24 := hR.2.2.1
  have c6 : σ1 86 6 = σ 86 6 := hG1.1 86 6 (by decide)
  have c10 : σ1 86 10 = σ 86 10 := hG1.1 86 10 (by decide)
  have n5 := hN.1
  have cF := qFINm_fr hG1 (by decide) (by decide)
  rw [e6, n5] at hx0
  simp only [c6, c10, cF] at hy0
  refine ⟨?_, ?_, ?_⟩
  · rcases hx0 with ⟨a1, a2⟩ | ⟨a1, a2⟩
    · rcases hy0 with ⟨b1, b2⟩ | ⟨b1, b2⟩
      · omega
      · exact absurd b1 a2
    · rcases hy0 with ⟨b1, b2⟩ | ⟨b1, b2⟩
      · exact absurd a1 b2
      · refine qwF_un (qwF_cg (fun u => Iff.rfl) (fun u hu => ?_) a2) b2
        show qcn (qFINc σ α f0 f1 x2 (ql_and x1 (ql_xor (σ 86 10) (-1))) u).2.1 64 = qcn (qFINm σ α g0 g1 x2 (ql_and x1 (ql_xor (σ 86 10) (-1))) u).2.1 64
        rw [qrr_t hI hR hK hF hP hH hL hN hW hA0 hA1 ⟨⟨by have := hu.1; omega, hu.2.1⟩, ⟨by have := hu.1; omega, hu.2.2.1⟩, hu.2.2.2.1⟩]
  · refine ⟨?_, ?_, ?_, ?_, hy4, ?_⟩
    · rw [hG2.1 17 5 (by decide), hG1.1 17 5 (by decide), hy3, c10, n5]
    · exact (hG2.1 27 6 (by decide)).trans ((hG1.1 27 6 (by decide)).trans hN.2.1)
    · exact (hG2.1 58 10 (by decide)).trans hx4
    · exact (hG2.1 86 22 (by decide)).trans ((hG1.1 86 22 (by decide)).trans hN.2.2.2.1)
    · exact (hG2.1 86 41 (by decide)).trans ((hG1.1 86 41 (by decide)).trans hN.2.2.2.2.2)
  · obtain ⟨q1, q2, q3⟩ := hT
    have c50 : σ1 86 50 = σ 86 50 := hG1.1 86 50 (by decide)
    have c51 : σ1 86 51 = σ 86 51 := hG1.1 86 51 (by decide)
    have d72 : σ2 70 2 = σ 70 2 := (hG2.1 70 2 (by decide)).trans (hG1.1 70 2 (by decide))
    have d73 : σ2 70 3 = σ 70 3 := (hG2.1 70 3 (by decide)).trans (hG1.1 70 3 (by decide))
    have b50 : 0 ≤ σ 86 50 ∧ σ 86 50 ≤ 31 := hI.1 86 50
    refine ⟨by omega, fun i hi => ?_, by omega⟩
    rw [hG2.2 71 (by decide), hG1.2 71 (by decide), hy1 i (by omega), hy2 i (by omega), hG1.2 115 (by decide), hG1.2 116 (by decide)]
    exact q2 i (by omega)
