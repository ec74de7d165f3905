/-! swords behind each call -/
theorem rs_same {σ1 α1 σ2 α2 : Nat → Nat → Int} (hy : α2 87 = α1 87 ∧ α2 88 = α1 88 ∧ α2 89 = α1 89 ∧ α2 90 = α1 90 ∧ σ2 86 5 = σ1 86 5 ∧ σ2 86 4 = σ1 86 4) (h : qRS σ1 α1) : qRS σ2 α2 := by
  unfold qRS
  rw [hy.1, hy.2.1, hy.2.2.1, hy.2.2.2.1, hy.2.2.2.2.1, hy.2.2.2.2.2]
  exact h
theorem rs_ch {σ1 α1 σ2 α2 : Nat → Nat → Int} {a w : Int} (hy : α2 87 = (qbec (α1 87, α1 88, α1 89, α1 90, σ1 86 5, σ1 86 4) a w).1 ∧ α2 88 = (qbec (α1 87, α1 88, α1 89, α1 90, σ1 86 5, σ1 86 4) a w).2.1 ∧ α2 89 = (qbec (α1 87, α1 88, α1 89, α1 90, σ1 86 5, σ1 86 4) a w).2.2.1 ∧ α2 90 = (qbec (α1 87, α1 88, α1 89, α1 90, σ1 86 5, σ1 86 4) a w).2.2.2.1 ∧ σ2 86 5 = (qbec (α1 87, α1 88, α1 89, α1 90, σ1 86 5, σ1 86 4) a w).2.2.2.2.1 ∧ σ2 86 4 = (qbec (α1 87, α1 88, α1 89, α1 90, σ1 86 5, σ1 86 4) a w).2.2.2.2.2) (hd : 0 ≤ σ1 86 5 ∧ σ1 86 5 ≤ σ1 86 4) (hv : a < 32 → 0 ≤ w ∧ w ≤ 1) (h : qRS σ1 α1) : qRS σ2 α2 := by
  have e := qdd_tup hy
  unfold qRS
  rw [e]
  exact qSW_bec hd hv h

set_option maxHeartbeats 4000000 in
theorem rs_person {σ1 α1 σ2 α2 : Nat → Nat → Int} {κ : Nat → Option Nat} {ρ : Nat} {x1 x2 x3 v2 : Int}  (hI : qI σ1 α1 κ ρ) (hd : 0 ≤ σ1 86 5 ∧ σ1 86 5 ≤ σ1 86 4 ∧ σ1 86 4 ≤ 40) (hG2 : qFr [(86, 6), (86, 15)] [87, 91, 92] σ1 α1 σ2 α2) (hy0 : ((v2 = -1 ∧ ¬ ((x1 = -1 ∨ (0 ≤ x1 ∧ x1 < σ1 86 6)) ∧ 1 ≤ x2 ∧ x2 ≤ 99 ∧ (x3 = 0 ∨ x3 = 1)) ∧ σ2 86 6 = σ1 86 6 ∧ (α2 91, α2 92, α2 87) = (α1 91, α1 92, α1 87)) ∨ (v2 = -3 ∧ ((x1 = -1 ∨ (0 ≤ x1 ∧ x1 < σ1 86 6)) ∧ 1 ≤ x2 ∧ x2 ≤ 99 ∧ (x3 = 0 ∨ x3 = 1)) ∧ 32 ≤ σ1 86 6 ∧ σ2 86 6 = σ1 86 6 ∧ (α2 91, α2 92, α2 87) = (α1 91, α1 92, α1 87)) ∨ (v2 = σ1 86 6 ∧ ((x1 = -1 ∨ (0 ≤ x1 ∧ x1 < σ1 86 6)) ∧ 1 ≤ x2 ∧ x2 ≤ 99 ∧ (x3 = 0 ∨ x3 = 1)) ∧ σ1 86 6 < 32 ∧ σ2 86 6 = σ1 86 6 + 1 ∧ (α2 91, α2 92, α2 87) = qstm (α1 91, α1 92, α1 87) (σ1 86 6) x1 x2 x3))) (h : qRS σ1 α1) : qRS σ2 α2 := by
  have b6 : 0 ≤ σ1 86 6 ∧ σ1 86 6 ≤ 32 := hI.1 86 6
  have b16 : 0 ≤ σ1 86 16 ∧ σ1 86 16 ≤ 40 := hI.1 86 16
  have b24 : 0 ≤ σ1 86 24 ∧ σ1 86 24 ≤ 60 := hI.1 86 24
  have f88 := hG2.2 88 (by decide)
  have f89 := hG2.2 89 (by decide)
  have f90 := hG2.2 90 (by decide)
  have f5 := hG2.1 86 5 (by decide)
  have f4 := hG2.1 86 4 (by decide)
  have same : α2 87 = α1 87 → qRS σ2 α2 := fun e => by
    unfold qRS
    rw [e, f88, f89, f90, f5, f4]
    exact h
  rcases hy0 with ⟨y1, y2, y3, y4⟩ | ⟨y1, y2, y3, y4, y5⟩ | ⟨y1, y2, y3, y4, y5⟩
  · exact same (congrArg (fun t => t.2.2) y4)
  · exact same (congrArg (fun t => t.2.2) y5)
  · have e : α2 87 = qzu (α1 87) (σ1 86 6 : Int).toNat x3 := congrArg (fun t => t.2.2) y5
    unfold qRS
    rw [e, f88, f89, f90, f5, f4]
    exact qSW_new (fun _ => by omega) h

set_option maxHeartbeats 4000000 in
theorem rs_people {σ1 α1 σ2 α2 : Nat → Nat → Int} {κ : Nat → Option Nat} {ρ : Nat} {x1 x2 x3 v2 : Int}  (hI : qI σ1 α1 κ ρ) (hd : 0 ≤ σ1 86 5 ∧ σ1 86 5 ≤ σ1 86 4 ∧ σ1 86 4 ≤ 40) (hG2 : qFr [(86, 6), (86, 15)] [87, 91, 92] σ1 α1 σ2 α2) (hy0 : ((v2 = -1 ∧ ¬ (0 ≤ x1 ∧ x1 ≤ 5 ∧ 1 ≤ x3 ∧ x3 ≤ 20) ∧ σ2 86 6 = σ1 86 6 ∧ (α2 91, α2 92, α2 87) = (α1 91, α1 92, α1 87)) ∨ (v2 = 0 ∧ (0 ≤ x1 ∧ x1 ≤ 5 ∧ 1 ≤ x3 ∧ x3 ≤ 20) ∧ α1 121 (x1 : Int).toNat < 0 ∧ σ2 86 6 = σ1 86 6 ∧ (α2 91, α2 92, α2 87) = (α1 91, α1 92, α1 87)) ∨ (v2 = -12 ∧ (0 ≤ x1 ∧ x1 ≤ 5 ∧ 1 ≤ x3 ∧ x3 ≤ 20) ∧ (0 ≤ α1 121 (x1 : Int).toNat ∧ ¬ α1 121 (x1 : Int).toNat = 60) ∧ σ2 86 6 = σ1 86 6 ∧ (α2 91, α2 92, α2 87) = (α1 91, α1 92, α1 87)) ∨ ((0 ≤ x1 ∧ x1 ≤ 5 ∧ 1 ≤ x3 ∧ x3 ≤ 20) ∧ α1 121 (x1 : Int).toNat = 60 ∧ (v2, σ2 86 6, (α2 91, α2 92, α2 87)) = qps qstm (α1 123) (60 * x1) (α1 122 (x1 : Int).toNat) x2 (x3 : Int).toNat 0 (σ1 86 6) (α1 91, α1 92, α1 87)))) (h : qRS σ1 α1) : qRS σ2 α2 := by
  have b6 : 0 ≤ σ1 86 6 ∧ σ1 86 6 ≤ 32 := hI.1 86 6
  have b16 : 0 ≤ σ1 86 16 ∧ σ1 86 16 ≤ 40 := hI.1 86 16
  have b24 : 0 ≤ σ1 86 24 ∧ σ1 86 24 ≤ 60 := hI.1 86 24
  have f88 := hG2.2 88 (by decide)
  have f89 := hG2.2 89 (by decide)
  have f90 := hG2.2 90 (by decide)
  have f5 := hG2.1 86 5 (by decide)
  have f4 := hG2.1 86 4 (by decide)
  have same : α2 87 = α1 87 → qRS σ2 α2 := fun e => by
    unfold qRS
    rw [e, f88, f89, f90, f5, f4]
    exact h
  rcases hy0 with ⟨y1, y2, y3, y4⟩ | ⟨y1, y2, y3, y4, y5⟩ | ⟨y1, y2, ⟨y3a, y3b⟩, y4, y5⟩ | ⟨y1, y2, y3⟩
  · exact same (congrArg (fun t => t.2.2) y4)
  · exact same (congrArg (fun t => t.2.2) y5)
  · exact same (congrArg (fun t => t.2.2) y5)
  · have hr := qps_rel (st := qstm) (st' := qstm) (R := fun _ t _ => qSW (t.2.2, α1 88, α1 89, α1 90, σ1 86 5, σ1 86 4)) (f := α1 123) (b := 60 * x1) (len := α1 122 (x1 : Int).toNat) (i := x2) (fun s t t' l w k k0 k1 k2 k3 => by
      show qSW (qzu t.2.2 s.toNat k, α1 88, α1 89, α1 90, σ1 86 5, σ1 86 4)
      exact qSW_new (fun _ => by unfold qfit at k2; omega) k3) (x3 : Int).toNat 0 (σ1 86 6) (α1 91, α1 92, α1 87) (α1 91, α1 92, α1 87) b6.1 h
    have e : α2 87 = (qps qstm (α1 123) (60 * x1) (α1 122 (x1 : Int).toNat) x2 (x3 : Int).toNat 0 (σ1 86 6) (α1 91, α1 92, α1 87)).2.2.2.2 := congrArg (fun t => t.2.2.2.2) y3
    unfold qRS
    rw [e, f88, f89, f90, f5, f4]
    exact hr.2.2

set_option maxHeartbeats 4000000 in
theorem rs_feud {σ1 α1 σ2 α2 : Nat → Nat → Int} {κ : Nat → Option Nat} {ρ : Nat} {x1 x2 x3 v2 : Int}  (hI : qI σ1 α1 κ ρ) (hd : 0 ≤ σ1 86 5 ∧ σ1 86 5 ≤ σ1 86 4 ∧ σ1 86 4 ≤ 40) (hG2 : qFr [(86, 16)] [87, 97, 98, 99, 100, 101] σ1 α1 σ2 α2) (hy0 : ((v2 = -1 ∧ ¬ (0 ≤ x1 ∧ x1 / 100 < σ1 86 6 ∧ x1 % 100 < σ1 86 6 ∧ ¬ x1 / 100 = x1 % 100 ∧ 0 ≤ x2 ∧ x2 ≤ 2399 ∧ 0 ≤ x3 ∧ x3 ≤ 3999) ∧ σ2 86 16 = σ1 86 16) ∧ α2 97 = α1 97 ∧ α2 98 = α1 98 ∧ α2 99 = α1 99 ∧ α2 100 = α1 100 ∧ α2 101 = α1 101 ∧ α2 87 = α1 87) ∨ ((v2 = -3 ∧ (0 ≤ x1 ∧ x1 / 100 < σ1 86 6 ∧ x1 % 100 < σ1 86 6 ∧ ¬ x1 / 100 = x1 % 100 ∧ 0 ≤ x2 ∧ x2 ≤ 2399 ∧ 0 ≤ x3 ∧ x3 ≤ 3999) ∧ 40 ≤ σ1 86 16 ∧ σ2 86 16 = σ1 86 16) ∧ α2 97 = α1 97 ∧ α2 98 = α1 98 ∧ α2 99 = α1 99 ∧ α2 100 = α1 100 ∧ α2 101 = α1 101 ∧ α2 87 = α1 87) ∨ ((v2 = σ1 86 16 ∧ (0 ≤ x1 ∧ x1 / 100 < σ1 86 6 ∧ x1 % 100 < σ1 86 6 ∧ ¬ x1 / 100 = x1 % 100 ∧ 0 ≤ x2 ∧ x2 ≤ 2399 ∧ 0 ≤ x3 ∧ x3 ≤ 3999) ∧ σ1 86 16 < 40 ∧ σ2 86 16 = σ1 86 16 + 1) ∧ α2 97 = qzu (α1 97) (σ1 86 16 : Int).toNat (x1 / 100) ∧ α2 98 = qzu (α1 98) (σ1 86 16 : Int).toNat (x1 % 100) ∧ α2 99 = qzu (α1 99) (σ1 86 16 : Int).toNat (x2) ∧ α2 100 = qzu (α1 100) (σ1 86 16 : Int).toNat (x3 / 1000) ∧ α2 101 = qzu (α1 101) (σ1 86 16 : Int).toNat (x3 % 1000) ∧ α2 87 = qzu (α1 87) (32 + σ1 86 16 : Int).toNat (2400))) (h : qRS σ1 α1) : qRS σ2 α2 := by
  have b6 : 0 ≤ σ1 86 6 ∧ σ1 86 6 ≤ 32 := hI.1 86 6
  have b16 : 0 ≤ σ1 86 16 ∧ σ1 86 16 ≤ 40 := hI.1 86 16
  have b24 : 0 ≤ σ1 86 24 ∧ σ1 86 24 ≤ 60 := hI.1 86 24
  have f88 := hG2.2 88 (by decide)
  have f89 := hG2.2 89 (by decide)
  have f90 := hG2.2 90 (by decide)
  have f5 := hG2.1 86 5 (by decide)
  have f4 := hG2.1 86 4 (by decide)
  have same : α2 87 = α1 87 → qRS σ2 α2 := fun e => by
    unfold qRS
    rw [e, f88, f89, f90, f5, f4]
    exact h
  rcases hy0 with ⟨⟨b1, b2, b3⟩, y97, y98, y99, y100, y101, y87⟩ | ⟨⟨b1, b2, b3, b4⟩, y97, y98, y99, y100, y101, y87⟩ | ⟨⟨b1, b2, b3, b4⟩, y97, y98, y99, y100, y101, y87⟩
  · exact same y87
  · exact same y87
  · unfold qRS
    rw [y87, f88, f89, f90, f5, f4]
    exact qSW_new (fun z => absurd z (by omega)) h

set_option maxHeartbeats 4000000 in
theorem rs_peace {σ1 α1 σ2 α2 : Nat → Nat → Int} {κ : Nat → Option Nat} {ρ : Nat} {x1 x2 x3 x4 v2 : Int}  (hI : qI σ1 α1 κ ρ) (hd : 0 ≤ σ1 86 5 ∧ σ1 86 5 ≤ σ1 86 4 ∧ σ1 86 4 ≤ 40) (hG2 : qFr [(86, 24)] [87, 102, 103, 104, 105] σ1 α1 σ2 α2) (hy0 : ((v2 = -1 ∧ ¬ (0 ≤ x1 ∧ x1 % 10 ≤ 5 ∧ x1 / 10 < σ1 86 6 ∧ 0 ≤ x2 ∧ x2 ≤ 4294967295 ∧ 0 ≤ x3 ∧ x3 / 10000 ≤ x3 % 10000 ∧ x3 % 10000 ≤ 2399 ∧ 0 ≤ x4 ∧ x4 ≤ 240) ∧ σ2 86 24 = σ1 86 24 ∧ α2 102 = α1 102 ∧ α2 103 = α1 103 ∧ α2 104 = α1 104 ∧ α2 105 = α1 105 ∧ α2 87 = α1 87) ∨ (v2 = -3 ∧ (0 ≤ x1 ∧ x1 % 10 ≤ 5 ∧ x1 / 10 < σ1 86 6 ∧ 0 ≤ x2 ∧ x2 ≤ 4294967295 ∧ 0 ≤ x3 ∧ x3 / 10000 ≤ x3 % 10000 ∧ x3 % 10000 ≤ 2399 ∧ 0 ≤ x4 ∧ x4 ≤ 240) ∧ 60 ≤ σ1 86 24 ∧ σ2 86 24 = σ1 86 24 ∧ α2 102 = α1 102 ∧ α2 103 = α1 103 ∧ α2 104 = α1 104 ∧ α2 105 = α1 105 ∧ α2 87 = α1 87) ∨ (v2 = σ1 86 24 ∧ (0 ≤ x1 ∧ x1 % 10 ≤ 5 ∧ x1 / 10 < σ1 86 6 ∧ 0 ≤ x2 ∧ x2 ≤ 4294967295 ∧ 0 ≤ x3 ∧ x3 / 10000 ≤ x3 % 10000 ∧ x3 % 10000 ≤ 2399 ∧ 0 ≤ x4 ∧ x4 ≤ 240) ∧ σ1 86 24 < 60 ∧ σ2 86 24 = σ1 86 24 + 1 ∧ α2 102 = qzu (α1 102) (σ1 86 24 : Int).toNat (x1 / 10) ∧ α2 103 = qzu (α1 103) (σ1 86 24 : Int).toNat (x3 / 10000) ∧ α2 104 = qzu (α1 104) (σ1 86 24 : Int).toNat (x3 % 10000) ∧ α2 105 = qzu (α1 105) (σ1 86 24 : Int).toNat x4 ∧ ∃ c1 c2 : Int, α2 87 = qzu (qzu (qzu (α1 87) (192 + σ1 86 24 : Int).toNat (x1 % 10)) (72 + 2 * σ1 86 24 : Int).toNat c1) (72 + 2 * σ1 86 24 + 1 : Int).toNat c2 ∧ ((-2147483648 ≤ c1 ∧ c1 ≤ 2147483647) ∧ (-2147483648 ≤ c2 ∧ c2 ≤ 2147483647)) ∧ ∀ j : Int, (0 ≤ j ∧ j < 16) → qbi c1 j = qbit x2 j ∧ qbi c2 j = qbit x2 (16 + j)))) (h : qRS σ1 α1) : qRS σ2 α2 := by
  have b6 : 0 ≤ σ1 86 6 ∧ σ1 86 6 ≤ 32 := hI.1 86 6
  have b16 : 0 ≤ σ1 86 16 ∧ σ1 86 16 ≤ 40 := hI.1 86 16
  have b24 : 0 ≤ σ1 86 24 ∧ σ1 86 24 ≤ 60 := hI.1 86 24
  have f88 := hG2.2 88 (by decide)
  have f89 := hG2.2 89 (by decide)
  have f90 := hG2.2 90 (by decide)
  have f5 := hG2.1 86 5 (by decide)
  have f4 := hG2.1 86 4 (by decide)
  have same : α2 87 = α1 87 → qRS σ2 α2 := fun e => by
    unfold qRS
    rw [e, f88, f89, f90, f5, f4]
    exact h
  rcases hy0 with ⟨b1, b2, b3, y102, y103, y104, y105, y87⟩ | ⟨b1, b2, b3, b4, y102, y103, y104, y105, y87⟩ | ⟨b1, b2, b3, b4, y102, y103, y104, y105, c1, c2, y87, yr, yc⟩
  · exact same y87
  · exact same y87
  · unfold qRS
    rw [y87, f88, f89, f90, f5, f4]
    exact qSW_new (fun z => absurd z (by omega)) (qSW_new (fun z => absurd z (by omega)) (qSW_new (fun z => absurd z (by omega)) h))

set_option maxHeartbeats 4000000 in
theorem rs_sword {σ1 α1 σ2 α2 : Nat → Nat → Int} {κ : Nat → Option Nat} {ρ : Nat} {x1 x2 v2 : Int}  (hI : qI σ1 α1 κ ρ) (hd : 0 ≤ σ1 86 5 ∧ σ1 86 5 ≤ σ1 86 4 ∧ σ1 86 4 ≤ 40) (hG2 : qFr [(86, 4), (86, 5)] [87, 88, 89, 90] σ1 α1 σ2 α2) (hy0 : ((v2 = -1 ∧ ¬ (0 ≤ x1 ∧ x1 < σ1 86 6 ∧ 0 ≤ x2 ∧ x2 ≤ 1) ∧ (α2 87 = α1 87 ∧ α2 88 = α1 88 ∧ α2 89 = α1 89 ∧ α2 90 = α1 90 ∧ σ2 86 5 = σ1 86 5 ∧ σ2 86 4 = σ1 86 4)) ∨ ((0 ≤ x1 ∧ x1 < σ1 86 6 ∧ 0 ≤ x2 ∧ x2 ≤ 1) ∧ v2 = α1 87 (0 + x1 : Int).toNat ∧ (α2 87 = (qbec (α1 87, α1 88, α1 89, α1 90, σ1 86 5, σ1 86 4) (0 + x1) x2).1 ∧ α2 88 = (qbec (α1 87, α1 88, α1 89, α1 90, σ1 86 5, σ1 86 4) (0 + x1) x2).2.1 ∧ α2 89 = (qbec (α1 87, α1 88, α1 89, α1 90, σ1 86 5, σ1 86 4) (0 + x1) x2).2.2.1 ∧ α2 90 = (qbec (α1 87, α1 88, α1 89, α1 90, σ1 86 5, σ1 86 4) (0 + x1) x2).2.2.2.1 ∧ σ2 86 5 = (qbec (α1 87, α1 88, α1 89, α1 90, σ1 86 5, σ1 86 4) (0 + x1) x2).2.2.2.2.1 ∧ σ2 86 4 = (qbec (α1 87, α1 88, α1 89, α1 90, σ1 86 5, σ1 86 4) (0 + x1) x2).2.2.2.2.2)))) (h : qRS σ1 α1) : qRS σ2 α2 := by
  have b6 : 0 ≤ σ1 86 6 ∧ σ1 86 6 ≤ 32 := hI.1 86 6
  have b16 : 0 ≤ σ1 86 16 ∧ σ1 86 16 ≤ 40 := hI.1 86 16
  have b24 : 0 ≤ σ1 86 24 ∧ σ1 86 24 ≤ 60 := hI.1 86 24
  rcases hy0 with ⟨b1, b2, b3⟩ | ⟨b1, b2, b3⟩
  · exact rs_same b3 h
  · exact rs_ch b3 ⟨hd.1, hd.2.1⟩ (fun _ => by omega) h

set_option maxHeartbeats 4000000 in
theorem rs_pay {σ1 α1 σ2 α2 : Nat → Nat → Int} {κ : Nat → Option Nat} {ρ : Nat} {x1 x2 v2 : Int}  (hI : qI σ1 α1 κ ρ) (hd : 0 ≤ σ1 86 5 ∧ σ1 86 5 ≤ σ1 86 4 ∧ σ1 86 4 ≤ 40) (hG2 : qFr [(86, 4), (86, 5)] [87, 88, 89, 90] σ1 α1 σ2 α2) (hy0 : ((v2 = -1 ∧ ¬ (0 ≤ x1 ∧ x1 < σ1 86 16 ∧ 0 ≤ x2 ∧ x2 ≤ 2400) ∧ (α2 87 = α1 87 ∧ α2 88 = α1 88 ∧ α2 89 = α1 89 ∧ α2 90 = α1 90 ∧ σ2 86 5 = σ1 86 5 ∧ σ2 86 4 = σ1 86 4)) ∨ ((0 ≤ x1 ∧ x1 < σ1 86 16 ∧ 0 ≤ x2 ∧ x2 ≤ 2400) ∧ v2 = α1 87 (32 + x1 : Int).toNat ∧ (α2 87 = (qbec (α1 87, α1 88, α1 89, α1 90, σ1 86 5, σ1 86 4) (32 + x1) x2).1 ∧ α2 88 = (qbec (α1 87, α1 88, α1 89, α1 90, σ1 86 5, σ1 86 4) (32 + x1) x2).2.1 ∧ α2 89 = (qbec (α1 87, α1 88, α1 89, α1 90, σ1 86 5, σ1 86 4) (32 + x1) x2).2.2.1 ∧ α2 90 = (qbec (α1 87, α1 88, α1 89, α1 90, σ1 86 5, σ1 86 4) (32 + x1) x2).2.2.2.1 ∧ σ2 86 5 = (qbec (α1 87, α1 88, α1 89, α1 90, σ1 86 5, σ1 86 4) (32 + x1) x2).2.2.2.2.1 ∧ σ2 86 4 = (qbec (α1 87, α1 88, α1 89, α1 90, σ1 86 5, σ1 86 4) (32 + x1) x2).2.2.2.2.2)))) (h : qRS σ1 α1) : qRS σ2 α2 := by
  have b6 : 0 ≤ σ1 86 6 ∧ σ1 86 6 ≤ 32 := hI.1 86 6
  have b16 : 0 ≤ σ1 86 16 ∧ σ1 86 16 ≤ 40 := hI.1 86 16
  have b24 : 0 ≤ σ1 86 24 ∧ σ1 86 24 ≤ 60 := hI.1 86 24
  rcases hy0 with ⟨b1, b2, b3⟩ | ⟨b1, b2, b3⟩
  · exact rs_same b3 h
  · exact rs_ch b3 ⟨hd.1, hd.2.1⟩ (fun z => absurd z (by omega)) h

set_option maxHeartbeats 4000000 in
theorem rs_cover {σ1 α1 σ2 α2 : Nat → Nat → Int} {κ : Nat → Option Nat} {ρ : Nat} {x1 x2 x3 v2 : Int}  (hI : qI σ1 α1 κ ρ) (hd : 0 ≤ σ1 86 5 ∧ σ1 86 5 ≤ σ1 86 4 ∧ σ1 86 4 ≤ 40) (hG2 : qFr [(86, 4), (86, 5)] [87, 88, 89, 90] σ1 α1 σ2 α2) (hy0 : ((v2 = -1 ∧ ¬ (0 ≤ x1 ∧ x1 < σ1 86 24 ∧ 0 ≤ x2 ∧ x2 < σ1 86 6 ∧ 0 ≤ x3 ∧ x3 ≤ 1) ∧ (α2 87 = α1 87 ∧ α2 88 = α1 88 ∧ α2 89 = α1 89 ∧ α2 90 = α1 90 ∧ σ2 86 5 = σ1 86 5 ∧ σ2 86 4 = σ1 86 4)) ∨ ((0 ≤ x1 ∧ x1 < σ1 86 24 ∧ 0 ≤ x2 ∧ x2 < σ1 86 6 ∧ 0 ≤ x3 ∧ x3 ≤ 1) ∧ v2 = qcw (α1 87) (x1 : Int).toNat x2 ∧ (α2 87 = (qbec (α1 87, α1 88, α1 89, α1 90, σ1 86 5, σ1 86 4) (72 + 2 * x1 + x2 / 16) (qcj (α1 87 (72 + 2 * x1 + x2 / 16).toNat) (x2 % 16) x3)).1 ∧ α2 88 = (qbec (α1 87, α1 88, α1 89, α1 90, σ1 86 5, σ1 86 4) (72 + 2 * x1 + x2 / 16) (qcj (α1 87 (72 + 2 * x1 + x2 / 16).toNat) (x2 % 16) x3)).2.1 ∧ α2 89 = (qbec (α1 87, α1 88, α1 89, α1 90, σ1 86 5, σ1 86 4) (72 + 2 * x1 + x2 / 16) (qcj (α1 87 (72 + 2 * x1 + x2 / 16).toNat) (x2 % 16) x3)).2.2.1 ∧ α2 90 = (qbec (α1 87, α1 88, α1 89, α1 90, σ1 86 5, σ1 86 4) (72 + 2 * x1 + x2 / 16) (qcj (α1 87 (72 + 2 * x1 + x2 / 16).toNat) (x2 % 16) x3)).2.2.2.1 ∧ σ2 86 5 = (qbec (α1 87, α1 88, α1 89, α1 90, σ1 86 5, σ1 86 4) (72 + 2 * x1 + x2 / 16) (qcj (α1 87 (72 + 2 * x1 + x2 / 16).toNat) (x2 % 16) x3)).2.2.2.2.1 ∧ σ2 86 4 = (qbec (α1 87, α1 88, α1 89, α1 90, σ1 86 5, σ1 86 4) (72 + 2 * x1 + x2 / 16) (qcj (α1 87 (72 + 2 * x1 + x2 / 16).toNat) (x2 % 16) x3)).2.2.2.2.2)))) (h : qRS σ1 α1) : qRS σ2 α2 := by
  have b6 : 0 ≤ σ1 86 6 ∧ σ1 86 6 ≤ 32 := hI.1 86 6
  have b16 : 0 ≤ σ1 86 16 ∧ σ1 86 16 ≤ 40 := hI.1 86 16
  have b24 : 0 ≤ σ1 86 24 ∧ σ1 86 24 ≤ 60 := hI.1 86 24
  rcases hy0 with ⟨b1, b2, b3⟩ | ⟨b1, b2, b3⟩
  · exact rs_same b3 h
  · exact rs_ch b3 ⟨hd.1, hd.2.1⟩ (fun z => absurd z (by omega)) h

set_option maxHeartbeats 4000000 in
theorem rs_undo {σ1 α1 σ2 α2 : Nat → Nat → Int} {κ : Nat → Option Nat} {ρ : Nat} { v2 : Int}  (hI : qI σ1 α1 κ ρ) (hd : 0 ≤ σ1 86 5 ∧ σ1 86 5 ≤ σ1 86 4 ∧ σ1 86 4 ≤ 40) (hG2 : qFr [(86, 5)] [87] σ1 α1 σ2 α2) (hy0 : ((v2 = -5 ∧ σ1 86 5 = 0 ∧ α2 87 = α1 87 ∧ σ2 86 5 = σ1 86 5) ∨ (v2 = σ1 86 5 - 1 ∧ 0 < σ1 86 5 ∧ α2 87 = qzu (α1 87) (α1 88 (σ1 86 5 - 1 : Int).toNat).toNat (α1 89 (σ1 86 5 - 1 : Int).toNat) ∧ σ2 86 5 = σ1 86 5 - 1))) (h : qRS σ1 α1) : qRS σ2 α2 := by
  have b6 : 0 ≤ σ1 86 6 ∧ σ1 86 6 ≤ 32 := hI.1 86 6
  have b16 : 0 ≤ σ1 86 16 ∧ σ1 86 16 ≤ 40 := hI.1 86 16
  have b24 : 0 ≤ σ1 86 24 ∧ σ1 86 24 ≤ 60 := hI.1 86 24
  have f88 := hG2.2 88 (by decide)
  have f89 := hG2.2 89 (by decide)
  have f90 := hG2.2 90 (by decide)
  have f4 := hG2.1 86 4 (by decide)
  rcases hy0 with ⟨b1, b2, b3, b4⟩ | ⟨b1, b2, b3, b4⟩
  · exact rs_same ⟨b3, f88, f89, f90, b4, f4⟩ h
  · have e : ((α2 87, α2 88, α2 89, α2 90, σ2 86 5, σ2 86 4) : qHS) = qund (α1 87, α1 88, α1 89, α1 90, σ1 86 5, σ1 86 4) := by
      rw [b3, f88, f89, f90, f4, b4]
      rfl
    unfold qRS
    rw [e]
    exact qSW_und (by show 0 < σ1 86 5 ∧ σ1 86 5 ≤ σ1 86 4; omega) h

set_option maxHeartbeats 4000000 in
theorem rs_redo {σ1 α1 σ2 α2 : Nat → Nat → Int} {κ : Nat → Option Nat} {ρ : Nat} { v2 : Int}  (hI : qI σ1 α1 κ ρ) (hd : 0 ≤ σ1 86 5 ∧ σ1 86 5 ≤ σ1 86 4 ∧ σ1 86 4 ≤ 40) (hG2 : qFr [(86, 5)] [87] σ1 α1 σ2 α2) (hy0 : ((v2 = -5 ∧ σ1 86 5 = σ1 86 4 ∧ α2 87 = α1 87 ∧ σ2 86 5 = σ1 86 5) ∨ (v2 = σ1 86 4 - σ1 86 5 - 1 ∧ ¬ σ1 86 5 = σ1 86 4 ∧ α2 87 = qzu (α1 87) (α1 88 (σ1 86 5 : Int).toNat).toNat (α1 90 (σ1 86 5 : Int).toNat) ∧ σ2 86 5 = σ1 86 5 + 1))) (h : qRS σ1 α1) : qRS σ2 α2 := by
  have b6 : 0 ≤ σ1 86 6 ∧ σ1 86 6 ≤ 32 := hI.1 86 6
  have b16 : 0 ≤ σ1 86 16 ∧ σ1 86 16 ≤ 40 := hI.1 86 16
  have b24 : 0 ≤ σ1 86 24 ∧ σ1 86 24 ≤ 60 := hI.1 86 24
  have f88 := hG2.2 88 (by decide)
  have f89 := hG2.2 89 (by decide)
  have f90 := hG2.2 90 (by decide)
  have f4 := hG2.1 86 4 (by decide)
  rcases hy0 with ⟨b1, b2, b3, b4⟩ | ⟨b1, b2, b3, b4⟩
  · exact rs_same ⟨b3, f88, f89, f90, b4, f4⟩ h
  · have e : ((α2 87, α2 88, α2 89, α2 90, σ2 86 5, σ2 86 4) : qHS) = qred (α1 87, α1 88, α1 89, α1 90, σ1 86 5, σ1 86 4) := by
      rw [b3, f88, f89, f90, f4, b4]
      rfl
    unfold qRS
    rw [e]
    exact qSW_red (by show 0 ≤ σ1 86 5 ∧ σ1 86 5 < σ1 86 4; omega) h

set_option maxHeartbeats 4000000 in
theorem rs_strike {σ1 α1 σ2 α2 : Nat → Nat → Int} {κ : Nat → Option Nat} {ρ : Nat} {x1 x2 x3 x4 v2 : Int} {g0 g1 : (Nat → Int) → Int} (hI : qI σ1 α1 κ ρ) (hd : 0 ≤ σ1 86 5 ∧ σ1 86 5 ≤ σ1 86 4 ∧ σ1 86 4 ≤ 40) (hG2 : qFr [(86, 4), (86, 5), (86, 10), (86, 15), (86, 23), (86, 29), (86, 30), (86, 35), (86, 36), (86, 37), (86, 38), (86, 39), (86, 50), (86, 51)] [87, 88, 89, 90, 96, 109, 115, 116] σ1 α1 σ2 α2) (hy0 : ((v2 = -1 ∧ ¬ (0 ≤ x1 ∧ x1 / 100 < σ1 86 6 ∧ x1 % 100 < σ1 86 6 ∧ ¬ x1 / 100 = x1 % 100 ∧ qst x2 (σ1 86 6) ∧ 0 ≤ x3 ∧ x3 ≤ 2399 ∧ 0 ≤ x4 ∧ x4 ≤ 1 ∧ qbit (ql_and x2 (ql_xor (σ1 86 10) (-1))) (x1 / 100) = 1 ∧ qbit (ql_and x2 (ql_xor (σ1 86 10) (-1))) (x1 % 100) = 1) ∧ α2 87 = α1 87 ∧ α2 88 = α1 88 ∧ α2 89 = α1 89 ∧ α2 90 = α1 90 ∧ σ2 86 5 = σ1 86 5 ∧ σ2 86 4 = σ1 86 4 ∧ σ2 86 10 = σ1 86 10 ∧ σ2 86 50 = σ1 86 50 ∧ σ2 86 51 = σ1 86 51 ∧ α2 115 = α1 115 ∧ α2 116 = α1 116 ∧ σ2 86 29 = σ1 86 29) ∨ ((0 ≤ x1 ∧ x1 / 100 < σ1 86 6 ∧ x1 % 100 < σ1 86 6 ∧ ¬ x1 / 100 = x1 % 100 ∧ qst x2 (σ1 86 6) ∧ 0 ≤ x3 ∧ x3 ≤ 2399 ∧ 0 ≤ x4 ∧ x4 ≤ 1 ∧ qbit (ql_and x2 (ql_xor (σ1 86 10) (-1))) (x1 / 100) = 1 ∧ qbit (ql_and x2 (ql_xor (σ1 86 10) (-1))) (x1 % 100) = 1) ∧ v2 = ((qFINm σ1 α1 g0 g1 x3 (ql_and x2 (ql_xor (σ1 86 10) (-1))) x1).1.length : Int) ∧ qTe σ2 α2 (qFINm σ1 α1 g0 g1 x3 (ql_and x2 (ql_xor (σ1 86 10) (-1))) x1) ∧ ((x4 = 0 ∧ σ2 86 10 = σ1 86 10 ∧ (α2 87 = α1 87 ∧ α2 88 = α1 88 ∧ α2 89 = α1 89 ∧ α2 90 = α1 90 ∧ σ2 86 5 = σ1 86 5 ∧ σ2 86 4 = σ1 86 4) ∧ σ2 86 29 = 0) ∨ (x4 = 1 ∧ σ2 86 10 = ql_or (σ1 86 10) (ql_and (ql_and x2 (ql_xor (σ1 86 10) (-1))) (ql_xor (qFINm σ1 α1 g0 g1 x3 (ql_and x2 (ql_xor (σ1 86 10) (-1))) x1).2.1 (-1))) ∧ ((α2 87, α2 88, α2 89, α2 90, σ2 86 5, σ2 86 4) : qHS) = qkn (qFINm σ1 α1 g0 g1 x3 (ql_and x2 (ql_xor (σ1 86 10) (-1))) x1).2.2.2 ((α1 87, α1 88, α1 89, α1 90, σ1 86 5, σ1 86 4) : qHS) ∧ σ2 86 29 = 0))))) (h : qRS σ1 α1) : qRS σ2 α2 := by
  have b6 : 0 ≤ σ1 86 6 ∧ σ1 86 6 ≤ 32 := hI.1 86 6
  have b16 : 0 ≤ σ1 86 16 ∧ σ1 86 16 ≤ 40 := hI.1 86 16
  have b24 : 0 ≤ σ1 86 24 ∧ σ1 86 24 ≤ 60 := hI.1 86 24
  rcases hy0 with ⟨b1, b2, b3, b4, b5, b6', b7, b8, b9, b10, b11, b12, b13, b14⟩ | ⟨b1, b2, b3, b4⟩
  · exact rs_same ⟨b3, b4, b5, b6', b7, b8⟩ h
  · rcases b4 with ⟨y4a, y4b, y4c, y4d⟩ | ⟨y4a, y4b, y4c, y4d⟩
    · exact rs_same y4c h
    · unfold qRS
      rw [y4c]
      exact qSW_kn _ _ (fun x hx => (qtell_mem 30 _ (qland_mem (fun x hx => absurd hx (List.not_mem_nil))) x hx).1) ⟨hd.1, hd.2.1⟩ h

/-- what both sides hold alike, all of it -/
def qRR (σ α : Nat → Nat → Int) (κ : Nat → Option Nat) (ρ : Nat) : Prop := qR σ α ∧ qR2 σ α ∧ qTp α ∧ qRF σ α ∧ qRP σ α ∧ qRH σ α ∧ qRL σ α ∧ qRN σ α ∧ qRT σ α ∧ qRC σ α κ ρ ∧ qSt σ α ∧ qRS σ α
theorem qR_0 (s g : Nat → Nat → Int) : qR (qJ_s s) (qJ_r g) := by
  refine ⟨rfl, rfl, rfl, rfl, rfl, rfl, rfl, fun d hd => ?_, fun d i hd hi => ?_⟩
  · have h6 : d = 0 ∨ d = 1 ∨ d = 2 ∨ d = 3 ∨ d = 4 ∨ d = 5 := by omega
    rcases h6 with rfl | rfl | rfl | rfl | rfl | rfl <;> exact Or.inl ⟨rfl, rfl⟩
  · have e : qJ_r g 46 d = 0 := rfl
    rw [e] at hi
    omega
theorem qRH_0 (s g : Nat → Nat → Int) : qRH (qJ_s s) (qJ_r g) := by
  have e : ∀ i, qbi 0 i = 0 := fun i => by
    rw [qbi_if, show qlz 0 = 0 by decide +kernel, Nat.zero_testBit]
    exact if_neg (by decide)
  refine ⟨⟨⟨⟨fun _ _ => rfl, fun _ _ => rfl, fun _ _ => rfl, fun k _ p hp => ?_, fun k _ => ?_⟩, fun k hk => ?_⟩, ⟨rfl, rfl⟩, ?_, fun j hj => ?_⟩, ⟨trivial, trivial⟩⟩
  · show qbit 0 p = if p < 32 then qbi 0 (p % 16) else 0
    rw [qbit_0, e]
    split <;> rfl
  · show (-2147483648 : Int) ≤ 0 ∧ (0 : Int) ≤ 2147483647
    decide
  · have h0 : (k : Int) < 0 := hk
    omega
  · show (0 : Int) ≤ 0 ∧ (0 : Int) ≤ 0 ∧ (0 : Int) ≤ 40
    decide
  · have h0 : (j : Int) < 0 := hj
    omega
theorem qRR_0 {s g : Nat → Nat → Int} (hok : qo_ok s g) (hcu : qo_cu s g) : qRR (qJ_s s) (qJ_r g) qo_k 82 := by
  refine ⟨qR_0 s g, qR2_0 hok, qTp_0 s g, ⟨rfl, rfl, rfl, rfl, rfl, fun f hf => ?_⟩, ⟨rfl, rfl, rfl, rfl, fun k hk => ?_⟩, qRH_0 s g, fun p hp => ?_, ⟨rfl, rfl, rfl, rfl, rfl, rfl⟩, ⟨rfl, fun i hi => ?_, Or.inl ⟨rfl, rfl⟩⟩, qRC_0 hcu, ⟨fun _ _ => (show (0 : Int) ≤ 0 by decide), fun _ _ => (show (0 : Int) ≤ 0 by decide)⟩, ⟨fun _ _ => (show (0 : Int) ≤ 0 ∧ (0 : Int) ≤ 1 by decide), fun j hj _ => ?_⟩⟩
  · have h0 : (f : Int) < 0 := hf
    omega
  · have h0 : (k : Int) < 0 := hk
    omega
  · have h0 : (p : Int) < 0 := hp
    omega
  · have h0 : (i : Int) < 0 := hi
    omega
  · have h0 : (j : Int) < 0 := hj
    omega
