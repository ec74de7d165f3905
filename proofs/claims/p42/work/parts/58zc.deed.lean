/-! in deed -/
noncomputable def qkn (l : List Int) (h : qHS) : qHS := l.foldl (fun h k => qbec h (192 + k) 6) h
theorem qkn_app (l : List Int) (k : Int) (h : qHS) : qkn (l ++ [k]) h = qbec (qkn l h) (192 + k) 6 := by
  unfold qkn
  rw [List.foldl_append]
  rfl
theorem qbec_m (h : qHS) (a w : Int) : (qbec h a w).1 = qzu h.1 a.toNat w := by
  by_cases e : h.1 a.toNat = w
  · rw [show qbec h a w = h from if_pos e]
    exact qzu_self e.symm
  · rw [show qbec h a w = _ from if_neg e]
theorem qkn_m : ∀ (l : List Int) (h : qHS), (∀ x ∈ l, 0 ≤ x) → ∀ a : Nat, (qkn l h).1 a = if 192 ≤ a ∧ ((a : Int) - 192) ∈ l then 6 else h.1 a
  | [], h, _, a => (if_neg (fun z => absurd z.2 (List.not_mem_nil))).symm
  | x :: l, h, hx, a => by
    have ih := qkn_m l (qbec h (192 + x) 6) (fun y hy => hx y (List.mem_cons_of_mem _ hy)) a
    have h0 := hx x (List.mem_cons_self)
    have e : (qkn (x :: l) h).1 a = (qkn l (qbec h (192 + x) 6)).1 a := rfl
    rw [e, ih, qbec_m]
    have e2 : qzu h.1 (192 + x).toNat 6 a = if a = (192 + x).toNat then 6 else h.1 a := rfl
    by_cases c : 192 ≤ a ∧ ((a : Int) - 192) ∈ l
    · rw [if_pos c, if_pos ⟨c.1, List.mem_cons_of_mem _ c.2⟩]
    · rw [if_neg c, e2]
      by_cases d : a = (192 + x).toNat
      · rw [if_pos d, if_pos ⟨by omega, by rw [show (a : Int) - 192 = x by omega]; exact List.mem_cons_self⟩]
      · rw [if_neg d, if_neg (fun z => ?_)]
        rcases List.mem_cons.mp z.2 with f | f
        · exact d (by omega)
        · exact c ⟨z.1, f⟩
/-- the bits of those broken and their list -/
def qBk (b : Int) (l : List Int) : Prop := (∀ x ∈ l, 0 ≤ x ∧ x ≤ 59) ∧ ∀ k : Nat, k < 64 → (qbit b (k : Int) = 1 ↔ (k : Int) ∈ l)
theorem qBk_0 : qBk 0 [] := ⟨fun x h => absurd h (List.not_mem_nil), fun k _ => ⟨fun h => by rw [qbit_0] at h; exact absurd h (by decide), fun h => absurd h (List.not_mem_nil)⟩⟩
theorem qBr_mem {P : Nat → Int} : ∀ (n : Nat) (x : Int), x ∈ qBr P n ↔ (0 ≤ x ∧ x < (n : Int)) ∧ P x.toNat = 1
  | 0, x => ⟨fun h => absurd h (List.not_mem_nil), fun h => absurd h.1 (by omega)⟩
  | n + 1, x => by
    have ih := qBr_mem (P := P) n x
    show x ∈ (if P n = 1 then qBr P n ++ [(n : Int)] else qBr P n) ↔ _
    by_cases c : P n = 1
    · rw [if_pos c, List.mem_append, ih]
      constructor
      · rintro (h | h)
        · exact ⟨by omega, h.2⟩
        · have e : x = (n : Int) := List.mem_singleton.mp h
          exact ⟨by omega, by rw [e, Int.toNat_natCast]; exact c⟩
      · intro h
        by_cases d : x = (n : Int)
        · exact Or.inr (List.mem_singleton.mpr d)
        · exact Or.inl ⟨by omega, h.2⟩
    · rw [if_neg c, ih]
      constructor
      · intro h
        exact ⟨by omega, h.2⟩
      · intro h
        refine ⟨⟨h.1.1, ?_⟩, h.2⟩
        by_cases d : x = (n : Int)
        · exact absurd (by have := h.2; rw [d, Int.toNat_natCast] at this; exact this) c
        · omega
theorem qBk_land {b : Int} {l : List Int} {P : Nat → Int} {n : Nat} (hn : n ≤ 60) (h : qBk b l) : qBk (ql_or b (qbs P n)) (l ++ qBr P n) := by
  refine ⟨fun x hx => ?_, fun k hk => ?_⟩
  · rcases List.mem_append.mp hx with f | f
    · exact h.1 x f
    · have := (qBr_mem n x).mp f
      omega
  · have a1 := qbor_c b (qbs P n) (k : Int)
    have a2 := qbs_c P (i := (k : Int)) (by omega) (n := n) (by omega)
    rw [Int.toNat_natCast] at a2
    have a3 := h.2 k hk
    have a4 := qBr_mem (P := P) n (k : Int)
    rw [Int.toNat_natCast] at a4
    rw [List.mem_append, a4, ← a3]
    omega
/-- the numbers that may change, with the peaces of b broken -/
def qDd (m mn : Nat → Int) (b : Int) : Prop := ∀ a : Nat, a < 252 → mn a = if 192 ≤ a ∧ qbit b ((a : Int) - 192) = 1 then 6 else m a
theorem qDd_of {mn : Nat → Int} {h : qHS} {b : Int} {l : List Int} (hb : qBk b l) (e : mn = (qkn l h).1) : qDd h.1 mn b := fun a ha => by
  rw [e, qkn_m l h (fun x hx => (hb.1 x hx).1) a]
  by_cases c : 192 ≤ a
  · have h1 := hb.2 (a - 192) (by omega)
    rw [show (((a - 192 : Nat) : Nat) : Int) = (a : Int) - 192 by omega] at h1
    by_cases d : qbit b ((a : Int) - 192) = 1
    · rw [if_pos ⟨c, h1.mp d⟩, if_pos ⟨c, d⟩]
    · rw [if_neg (fun z => d (h1.mpr z.2)), if_neg (fun z => d z.2)]
  · rw [if_neg (fun z => c z.1), if_neg (fun z => c z.1)]
theorem qDd_lo {m mn : Nat → Int} {b : Int} (h : qDd m mn b) {a : Nat} (ha : a < 192) : mn a = m a := by
  rw [h a (by omega), if_neg (fun z => absurd z.1 (by omega))]
theorem qDd_hi {m mn : Nat → Int} {b : Int} (h : qDd m mn b) {k : Nat} (hk : k < 60) : mn (192 + k) = if qbit b (k : Int) = 1 then 6 else m (192 + k) := by
  rw [h (192 + k) (by omega), show (((192 + k : Nat) : Int) - 192) = (k : Int) by omega]
  by_cases d : qbit b (k : Int) = 1
  · rw [if_pos ⟨by omega, d⟩, if_pos d]
  · rw [if_neg (fun z => d z.2), if_neg d]
theorem qDd_cw {m mn : Nat → Int} {b : Int} (h : qDd m mn b) {k : Nat} (hk : k < 60) {p : Int} (hp : 0 ≤ p ∧ p ≤ 31) : qcw mn k p = qcw m k p := by
  unfold qcw
  rw [qDd_lo h (by omega)]
theorem qhF_d {m mn gv fr t bh ld : Nat → Int} {b p q h : Int} (hd : qDd m mn b) (hp : 0 ≤ p ∧ p ≤ 31) (hq : 0 ≤ q ∧ q ≤ 31) {k : Nat} (hk : k < 60) : qhF (qsh mn 192) gv fr (qun t bh (qsh mn 192)) (qcw mn) (qll ld) p q h k = qhG b (qhF (qsh m 192) gv fr (qun t bh (qsh m 192)) (qcw m) (qll ld) p q h) k := by
  have e1 := qDd_hi hd hk
  have a := qhG_c b (qhF (qsh m 192) gv fr (qun t bh (qsh m 192)) (qcw m) (qll ld) p q h) k
  have hs : ∀ f : Nat → Int, qsh f 192 k = f (192 + k) := fun _ => rfl
  rcases a with a | a
  · rw [a.2]
    unfold qhF qho
    rw [hs, e1, if_pos a.1]
    exact if_pos (Or.inr (Or.inl (by decide)))
  · rw [a.2]
    unfold qhF qun
    rw [hs, hs, e1, if_neg a.1, qDd_cw hd hk hp, qDd_cw hd hk hq]
theorem qZk_d {σ α σn αn : Nat → Nat → Int} {b : Int} (e1 : σn 86 24 = σ 86 24) (h24 : σ 86 24 ≤ 60) (e2 : αn 104 = α 104) (e3 : αn 105 = α 105) (hd : qDd (α 87) (αn 87) b) (h : qZk σ α) : qZk σn αn := fun k hk => by
  have h1 := h k (by omega)
  have h2 := qDd_hi hd (k := k) (by omega)
  have hs : ∀ f : Nat → Int, qsh f 192 k = f (192 + k) := fun _ => rfl
  rw [e2, e3]
  rw [hs] at h1 ⊢
  rw [h2]
  split <;> omega
theorem qNVr_d {σ α σn αn : Nat → Nat → Int} {b de p q st th h : Int} (er : ∀ x, x ∈ [91, 94, 95, 97, 98, 99, 100, 102, 103, 104, 105] → αn x = α x) (s6 : σn 86 6 = σ 86 6) (s11 : σn 86 11 = σ 86 11) (s16 : σn 86 16 = σ 86 16) (s22 : σn 86 22 = σ 86 22) (s24 : σn 86 24 = σ 86 24) (s41 : σn 86 41 = σ 86 41) (h16 : σ 86 16 ≤ 40) (h24 : σ 86 24 ≤ 60) (hd : qDd (α 87) (αn 87) b) (hp : 0 ≤ p ∧ p ≤ 31) (hq : 0 ≤ q ∧ q ≤ 31) : qNVr σn αn 0 de p q st th h = qNVr σ α b de p q st th h := by
  have hK : qnF (qd9 (αn 94) (αn 95) (σn 86 11)) (αn 97) (αn 98) (αn 100) (αn 99) (qsh (αn 87) 32) (σn 86 22) (σn 86 16) p q h = qnF (qd9 (α 94) (α 95) (σ 86 11)) (α 97) (α 98) (α 100) (α 99) (qsh (α 87) 32) (σ 86 22) (σ 86 16) p q h := by
    rw [s11, s16, s22, er 94 (by decide), er 95 (by decide), er 97 (by decide), er 98 (by decide), er 99 (by decide), er 100 (by decide)]
    unfold qnF
    refine qnk_eq _ (fun k hk => ⟨?_, rfl⟩)
    unfold qoF
    rw [show qsh (αn 87) 32 k = qsh (α 87) 32 k from qDd_lo hd (by omega)]
  have hH : qsm (qhG 0 (qhF (qsh (αn 87) 192) (αn 102) (αn 103) (qun (αn 104) (αn 105) (qsh (αn 87) 192)) (qcw (αn 87)) (qll (αn 91)) p q h)) (σn 86 24 : Int).toNat = qsm (qhG b (qhF (qsh (α 87) 192) (α 102) (α 103) (qun (α 104) (α 105) (qsh (α 87) 192)) (qcw (α 87)) (qll (α 91)) p q h)) (σ 86 24 : Int).toNat := by
    rw [s24, er 91 (by decide), er 102 (by decide), er 103 (by decide), er 104 (by decide), er 105 (by decide)]
    refine qsm_eq _ (fun k hk => ?_)
    rw [show qhG 0 (qhF (qsh (αn 87) 192) (α 102) (α 103) (qun (α 104) (α 105) (qsh (αn 87) 192)) (qcw (αn 87)) (qll (α 91)) p q h) k = qhF (qsh (αn 87) 192) (α 102) (α 103) (qun (α 104) (α 105) (qsh (αn 87) 192)) (qcw (αn 87)) (qll (α 91)) p q h k from if_neg (by rw [qbit_0]; decide)]
    exact qhF_d hd hp hq (by omega)
  unfold qNVr
  rw [hK, hH, qDd_lo hd (a := p.toNat) (by omega), qDd_lo hd (a := q.toNat) (by omega), s6, s11, s41, er 91 (by decide), er 94 (by decide), er 95 (by decide)]
/-- the dead of a telling: those that were, and of those there -/
def qDe (d D x : Int) : Prop := ∀ i : Int, 0 ≤ i → i < 64 → (qbit d i = 1 → qbit D i = 1) ∧ (qbit D i = 1 → qbit d i = 1 ∨ qbit x i = 1)
theorem qDe_0 (d x : Int) : qDe d d x := fun _ _ _ => ⟨fun h => h, fun h => Or.inl h⟩
theorem qDe_s {d D D' x q : Int} (hq : 0 ≤ q ∧ q < 64) (hx : qbit x q = 1) (h : qDe d D x) (e : D' = ql_or D (ql_shl 1 q)) : qDe d D' x := fun i h1 h2 => by
  have a := h i h1 h2
  have b := qbor_c D (ql_shl 1 q) i
  have c := qbit_shl hq h1
  rw [← e] at b
  by_cases f : i = q
  · rw [if_pos f] at c
    rw [f] at a b c ⊢
    exact ⟨fun _ => by omega, fun _ => Or.inr hx⟩
  · rw [if_neg f] at c
    refine ⟨fun z => ?_, fun z => a.2 (by omega)⟩
    have := a.1 z
    omega
theorem qDe_eq {d D x l : Int} (hD : -9223372036854775808 ≤ D ∧ D ≤ 9223372036854775807) (h : qDe d D x) (e : ql_and x (ql_xor D (-1)) = l) : D = ql_or d (ql_and (ql_and x (ql_xor d (-1))) (ql_xor l (-1))) := by
  refine qbit_ext hD (ql_or_r _ _) (fun i h1 h2 => ?_)
  have a := h i h1 h2
  have b1 := qbor_c d (ql_and (ql_and x (ql_xor d (-1))) (ql_xor l (-1))) i
  have b2 := qband_c (ql_and x (ql_xor d (-1))) (ql_xor l (-1)) i
  have b3 := qband_c x (ql_xor d (-1)) i
  have b4 := qbit_not d ⟨h1, h2⟩
  have b5 := qbit_not l ⟨h1, h2⟩
  have b6 := qband_c x (ql_xor D (-1)) i
  have b7 := qbit_not D ⟨h1, h2⟩
  rw [e] at b6
  have r1 := qbit_r d i
  have r2 := qbit_r D i
  have r3 := qbit_r l i
  omega
theorem qtr_x {σn αn : Nat → Nat → Int} {g0 g1 : (Nat → Int) → Int} {st hh v N : Int} (hv : -1 ≤ v) (hN : N ≤ 32)
    (h : (0 ≤ v ∧ qFst (fun r t : Int => ¬ t = r ∧ qbit (ql_and st (ql_xor (σn 86 10) (-1))) r = 1 ∧ qbit (ql_and st (ql_xor (σn 86 10) (-1))) t = 1 ∧ ∃ i : Nat, (i : Int) < σn 86 50 ∧ (αn 115 i = t ∧ ¬ g1 (qNVr σn αn (σn 86 29) (σn 86 10) r t (αn 116 i) st hh) = 0)) N v) ∨
      (qFst (fun r t : Int => ¬ t = r ∧ qbit (ql_and st (ql_xor (σn 86 10) (-1))) r = 1 ∧ qbit (ql_and st (ql_xor (σn 86 10) (-1))) t = 1 ∧ ∃ i : Nat, (i : Int) < σn 86 50 ∧ (αn 115 i = t ∧ ¬ g1 (qNVr σn αn (σn 86 29) (σn 86 10) r t (αn 116 i) st hh) = 0)) N (-1) ∧ qFst (fun p q : Int => ¬ q = p ∧ qbit (ql_and st (ql_xor (σn 86 10) (-1))) p = 1 ∧ qbit (ql_and st (ql_xor (σn 86 10) (-1))) q = 1 ∧ ¬ g0 (qNVr σn αn (σn 86 29) (σn 86 10) p q (-1) st hh) = 0) N v)) : v < 0 ∨ qbit st (v % 100) = 1 := by
  have a := qband_c st (ql_xor (σn 86 10) (-1)) (v % 100)
  rcases h with ⟨_, b⟩ | ⟨_, b⟩ <;> rcases b with b | ⟨_, b2, _⟩
  · exact Or.inl (by omega)
  · have := b2.2.2.1
    exact Or.inr (by omega)
  · exact Or.inl (by omega)
  · have := b2.2.2.1
    exact Or.inr (by omega)
theorem qdd_hold {σ A αn : Nat → Nat → Int} {m : Nat → Int} {b z p q h v i : Int} {P : Nat → Int} (e102 : αn 102 = A 102) (e103 : αn 103 = A 103) (e104 : αn 104 = A 104) (e105 : αn 105 = A 105) (e91 : αn 91 = A 91) (hd : qDd (A 87) (αn 87) (ql_or b (qbs P i.toNat))) (hp : 0 ≤ p ∧ p ≤ 31) (hq : 0 ≤ q ∧ q ≤ 31) (hi : 0 ≤ i ∧ i ≤ 59) (hz : z = 0) (hv : v = qhG z (qhF (qsh (αn 87) 192) (αn 102) (αn 103) (qun (αn 104) (αn 105) (qsh (αn 87) 192)) (qcw (αn 87)) (qll (αn 91)) p q h) i.toNat) : v = qHr σ A h b p q i.toNat := by
  rw [hz, e102, e103, e104, e105, e91, show qhG 0 (qhF (qsh (αn 87) 192) (A 102) (A 103) (qun (A 104) (A 105) (qsh (αn 87) 192)) (qcw (αn 87)) (qll (A 91)) p q h) i.toNat = qhF (qsh (αn 87) 192) (A 102) (A 103) (qun (A 104) (A 105) (qsh (αn 87) 192)) (qcw (αn 87)) (qll (A 91)) p q h i.toNat from if_neg (by rw [qbit_0]; decide), qhF_d hd hp hq (by omega), qhG_or (i := i) (by omega) rfl] at hv
  exact hv
theorem qdd_list {P : Nat → Int} {l : List Int} {i : Int} {h0 : qHS} (hi : 0 ≤ i) (hP : ¬ P i.toNat = 1) : qkn (l ++ qBr P (i + 1).toNat) h0 = qkn (l ++ qBr P i.toNat) h0 := by
  have h1 := qBr_s P hi
  rcases h1 with h1 | h1
  · exact absurd h1.1 hP
  · rw [h1.2]
theorem qdd_lis2 {P : Nat → Int} {l : List Int} {i : Int} {h0 : qHS} (hi : 0 ≤ i) (hP : P i.toNat = 1) : qkn (l ++ qBr P (i + 1).toNat) h0 = qbec (qkn (l ++ qBr P i.toNat) h0) (192 + i) 6 := by
  have h1 := qBr_s P hi
  rcases h1 with h1 | h1
  · rw [h1.2, ← List.append_assoc, qkn_app]
  · exact absurd hP h1.1
theorem qdd_tup {a b c d : Nat → Int} {e f : Int} {Q : qHS} (h : a = Q.1 ∧ b = Q.2.1 ∧ c = Q.2.2.1 ∧ d = Q.2.2.2.1 ∧ e = Q.2.2.2.2.1 ∧ f = Q.2.2.2.2.2) : (a, b, c, d, e, f) = Q := by
  rw [h.1, h.2.1, h.2.2.1, h.2.2.2.1, h.2.2.2.2.1, h.2.2.2.2.2]

set_option maxHeartbeats 4000000 in
set_option maxRecDepth 20000 in
/-- OneRoofModel.blowFalls -/
theorem sf_247_86x1 {L : Nat} {xs : Nat → Int} {vb : Bool} {d : Nat} {σ α : Nat → Nat → Int} {κ : Nat → Option Nat} {ρ : Nat} {x1 : Int} {x2 : Int} {x3 : Int} {s : qTS} {st : Int} {A : Nat → Nat → Int} {h0 : qHS} (hI : qI σ α κ ρ) (r1 : 0 ≤ x1 ∧ x1 ≤ 31) (r2 : 0 ≤ x2 ∧ x2 ≤ 31) (r3 : (-2147483648) ≤ x3 ∧ x3 ≤ 2147483647) (p0 : ¬ x1 = x2) (p1 : qZk σ A) (p2 : x1 < σ 86 6 ∧ x2 < σ 86 6) (p3 : σ 86 50 ≤ 30) (p4 : σ 86 29 = 0) (p5 : qBk s.2.2.1 s.2.2.2) (p6 : h0.1 = A 87 ∧ α 102 = A 102 ∧ α 103 = A 103 ∧ α 104 = A 104 ∧ α 105 = A 105 ∧ α 91 = A 91) (p7 : ((α 87, α 88, α 89, α 90, σ 86 5, σ 86 4) : qHS) = qkn s.2.2.2 h0) (p8 : qTr σ α st s) : qm_T (qe L xs vb) (d + 4) 247 [.ref 86, .int (qz x1), .int (qz x2), .int (qz x3), .int (qz 1)] (qw σ α κ ρ) (fun r w' => ∃ σ' α', w' = qw σ' α' κ ρ ∧ qI σ' α' κ ρ ∧ qFr [(86, 4), (86, 5), (86, 10), (86, 50)] [87, 88, 89, 90, 115, 116] σ α σ' α' ∧ σ' 86 50 = σ 86 50 + 1 ∧ r = none ∧ qTr σ' α' st (qland (qHr σ A x3) (qBm σ A) (σ 86 24 : Int).toNat s (100 * x1 + x2)) ∧ ((α' 87, α' 88, α' 89, α' 90, σ' 86 5, σ' 86 4) : qHS) = qkn ((qland (qHr σ A x3) (qBm σ A) (σ 86 24 : Int).toNat s (100 * x1 + x2))).2.2.2 h0 ∧ σ' 86 10 = ql_or (σ 86 10) (ql_shl 1 x2)) := by
  refine qr_start (d := d + 3) qv_e247 (Nat.le_of_ble_eq_true rfl) ?_
  show qr_W (qe L xs vb) (d + 3) qx_e247 _ (0, [(0, .ref 86), (1, .int (qz x1)), (2, .int (qz x2)), (3, .int (qz x3)), (4, .int (qz 1))], [], _, 0, 0)
  have hF0 := qFr_rf [(86, 4), (86, 5), (86, 10), (86, 50)] [87, 88, 89, 90, 115, 116] σ α
  have hz86_6 : 0 ≤ σ 86 6 ∧ σ 86 6 ≤ 32 := hI.1 86 6
  have hz86_50 : 0 ≤ σ 86 50 ∧ σ 86 50 ≤ 31 := hI.1 86 50
  have hz86_29 : (-9223372036854775808) ≤ σ 86 29 ∧ σ 86 29 ≤ 9223372036854775807 := hI.1 86 29
  have hz86_5 : 0 ≤ σ 86 5 ∧ σ 86 5 ≤ 40 := hI.1 86 5
  have hz86_4 : 0 ≤ σ 86 4 ∧ σ 86 4 ≤ 40 := hI.1 86 4
  have hz86_10 : (-9223372036854775808) ≤ σ 86 10 ∧ σ 86 10 ≤ 9223372036854775807 := hI.1 86 10
  have hz86_24 : 0 ≤ σ 86 24 ∧ σ 86 24 ≤ 60 := hI.1 86 24
  refine qr_iconst 1 rfl rfl ?_
  refine qr_istore _ 3 rfl (by decide) rfl rfl ?_
  have hL1437 : ∀ (n : Nat) (ls : qm_L) (u1423 : Int) (σ1424 α1425 : Nat → Nat → Int), 60 - u1423 < (n : Int) → qm_get ls 0 = some (.ref 86) → qm_get ls 1 = some (.int (qz x1)) → qm_get ls 2 = some (.int (qz x2)) → qm_get ls 3 = some (.int (qz x3)) → qm_get ls 4 = some (.int (qz 1)) → qm_get ls 5 = some (.int (qz u1423)) → (0 ≤ u1423 ∧ u1423 ≤ 60) → qI σ1424 α1425 κ ρ → qFr [(86, 4), (86, 5), (86, 10), (86, 50)] [87, 88, 89, 90, 115, 116] σ α σ1424 α1425 → σ1424 86 6 = (σ 86 6) → σ1424 86 10 = (σ 86 10) → σ1424 86 24 = (σ 86 24) → σ1424 86 50 = (σ 86 50) → α1425 115 = (α 115) → α1425 116 = (α 116) → ((α1425 87, α1425 88, α1425 89, α1425 90, σ1424 86 5, σ1424 86 4) : qHS) = qkn (s.2.2.2 ++ qBr (qPk (qHr σ A x3 s.2.2.1 x1 x2) (qBm σ A x1)) (u1423 : Int).toNat) h0 → u1423 ≤ σ 86 24 → qr_W (qe L xs vb) (d + 3) qx_e247 (fun r w' => ∃ σ' α', w' = qw σ' α' κ ρ ∧ qI σ' α' κ ρ ∧ qFr [(86, 4), (86, 5), (86, 10), (86, 50)] [87, 88, 89, 90, 115, 116] σ α σ' α' ∧ σ' 86 50 = σ 86 50 + 1 ∧ r = none ∧ qTr σ' α' st (qland (qHr σ A x3) (qBm σ A) (σ 86 24 : Int).toNat s (100 * x1 + x2)) ∧ ((α' 87, α' 88, α' 89, α' 90, σ' 86 5, σ' 86 4) : qHS) = qkn ((qland (qHr σ A x3) (qBm σ A) (σ 86 24 : Int).toNat s (100 * x1 + x2))).2.2.2 h0 ∧ σ' 86 10 = ql_or (σ 86 10) (ql_shl 1 x2)) (3, ls, [], qw σ1424 α1425 κ ρ, 0, 0) := by
    intro n
    induction n with
    | zero => intro ls u1423 σ1424 α1425 hm g1417 g1418 g1419 g1420 g1421 g1422 hf1434 hI1426 hF1427 hk1428 hk1429 hk1430 hk1431 hk1432 hk1433 hx1435 hx1436; exact False.elim (by omega)
    | succ n ih1438 =>
      intro ls u1423 σ1424 α1425 hm g1417 g1418 g1419 g1420 g1421 g1422 hf1434 hI1426 hF1427 hk1428 hk1429 hk1430 hk1431 hk1432 hk1433 hx1435 hx1436
      have hs1439 : 0 ≤ σ1424 86 5 ∧ σ1424 86 5 ≤ 40 := hI1426.1 86 5
      have hs1440 : 0 ≤ σ1424 86 4 ∧ σ1424 86 4 ≤ 40 := hI1426.1 86 4
      refine qr_iload 5 rfl g1422 rfl ?_
      refine qr_aload_n 6 rfl g1417 rfl ?_
      refine qr_get 9 rfl rfl rfl (by decide) rfl ?_
      refine qy_v (σ 86 24) ((hk1430).trans rfl) ?_
      refine qr_icmp_ge 86 12 rfl rfl rfl (by omega) (by omega) (fun h1441 => ?_) (fun h1441 => ?_)
      · skip
        refine qr_aload_n 87 rfl g1417 rfl ?_
        refine qr_dup 88 rfl rfl rfl ?_
        refine qr_get 91 rfl rfl rfl (by decide) rfl ?_
        refine qy_vl (σ 86 10) ((hk1429).trans rfl) ?_
        refine qr_lconst 92 rfl rfl ?_
        refine qy_vl 1 rfl ?_
        refine qr_iload_n 93 rfl g1419 rfl ?_
        refine qr_lshl 94 rfl rfl ?_
        refine qy_canlE (fun v1442 hv1442 hev1442 => ?_)
        refine qr_lor 95 rfl rfl ?_
        refine qy_canlE (fun v1443 hv1443 hev1443 => ?_)
        refine qr_put 98 rfl (by decide) rfl (Nat.le_of_ble_eq_true rfl) (Nat.le_of_ble_eq_true rfl) (Or.inl rfl) (qr_fitL rfl _) rfl ?_
        refine qy_wS (qw_s σ1424 86 10 v1443) rfl (fun σ1444 e1445 => ?_)
        have hI1446 : qI σ1444 α1425 κ ρ := by rw [e1445]; exact qI_s hI1426 86 10 rfl (show (-9223372036854775808) ≤ v1443 ∧ v1443 ≤ 9223372036854775807 by omega)
        have hF1447 : qFr [(86, 4), (86, 5), (86, 10), (86, 50)] [87, 88, 89, 90, 115, 116] σ α σ1444 α1425 := by rw [e1445]; exact qFr_s hF1427 86 10 _ (by decide)
        refine qr_aload_n 99 rfl g1417 rfl ?_
        refine qr_get 102 rfl rfl rfl (by decide) rfl ?_
        refine qr_aload_n 103 rfl g1417 rfl ?_
        refine qr_get 106 rfl rfl rfl (by decide) rfl ?_
        refine qy_v (σ 86 50) ((congrFun (congrFun e1445 86) 50).trans ((hk1431).trans rfl)) ?_
        refine qr_iload_n 107 rfl g1418 rfl ?_
        refine qr_iastore 108 rfl (by decide) rfl (by omega) (by decide) rfl ?_
        refine qy_wA (qw_r α1425 115 (qzu (α1425 115) ((σ 86 50) : Int).toNat x1)) rfl (fun α1448 e1449 => ?_)
        have hI1450 : qI σ1444 α1448 κ ρ := by rw [e1449]; exact qI_r hI1446 115 _ rfl (show 0 ≤ x1 ∧ x1 ≤ 31 by omega)
        have hF1451 : qFr [(86, 4), (86, 5), (86, 10), (86, 50)] [87, 88, 89, 90, 115, 116] σ α σ1444 α1448 := by rw [e1449]; exact qFr_r hF1447 115 _ (by decide)
        refine qr_aload_n 109 rfl g1417 rfl ?_
        refine qr_get 112 rfl rfl rfl (by decide) rfl ?_
        refine qr_aload_n 113 rfl g1417 rfl ?_
        refine qr_get 116 rfl rfl rfl (by decide) rfl ?_
        refine qy_v (σ 86 50) ((congrFun (congrFun e1445 86) 50).trans ((hk1431).trans rfl)) ?_
        refine qr_iload_n 117 rfl g1419 rfl ?_
        refine qr_iastore 118 rfl (by decide) rfl (by omega) (by decide) rfl ?_
        refine qy_wA (qw_r α1448 116 (qzu (α1448 116) ((σ 86 50) : Int).toNat x2)) rfl (fun α1452 e1453 => ?_)
        have hI1454 : qI σ1444 α1452 κ ρ := by rw [e1453]; exact qI_r hI1450 116 _ rfl (show 0 ≤ x2 ∧ x2 ≤ 31 by omega)
        have hF1455 : qFr [(86, 4), (86, 5), (86, 10), (86, 50)] [87, 88, 89, 90, 115, 116] σ α σ1444 α1452 := by rw [e1453]; exact qFr_r hF1451 116 _ (by decide)
        refine qr_aload_n 119 rfl g1417 rfl ?_
        refine qr_dup 120 rfl rfl rfl ?_
        refine qr_get 123 rfl rfl rfl (by decide) rfl ?_
        refine qy_v (σ 86 50) ((congrFun (congrFun e1445 86) 50).trans ((hk1431).trans rfl)) ?_
        refine qr_iconst 124 rfl rfl ?_
        refine qr_iadd 125 rfl rfl ?_
        refine qr_put 128 rfl (by decide) rfl (Nat.le_of_ble_eq_true rfl) (Nat.le_of_ble_eq_true rfl) (Or.inl rfl) (qr_fitI rfl _) rfl ?_
        refine qy_wS (qw_s σ1444 86 50 ((σ 86 50) + 1)) rfl (fun σ1456 e1457 => ?_)
        have hI1458 : qI σ1456 α1452 κ ρ := by rw [e1457]; exact qI_s hI1454 86 50 rfl (show 0 ≤ ((σ 86 50) + 1) ∧ ((σ 86 50) + 1) ≤ 31 by omega)
        have hF1459 : qFr [(86, 4), (86, 5), (86, 10), (86, 50)] [87, 88, 89, 90, 115, 116] σ α σ1456 α1452 := by rw [e1457]; exact qFr_s hF1455 86 50 _ (by decide)
        refine qr_retV rfl rfl (by decide) (by decide) ?_
        exact ⟨_, _, rfl, hI1458, hF1459, (by have hw : σ1456 86 50 = ((σ 86 50) + 1) := (congrFun (congrFun e1457 86) 50).trans rfl; omega), rfl, (qTr_land (H := qHr σ A x3) (B := qBm σ A) (n := (σ 86 24 : Int).toNat) ⟨r1, r2⟩ (by omega) p8 (((congrFun e1453 115).trans ((qw_r_ne (by decide)).trans ((congrFun e1449 115).trans (qw_r_eq.trans (congrArg (fun f => qzu f ((σ 86 50) : Int).toNat x1) hk1432)))))) (((congrFun e1453 116).trans (qw_r_eq.trans (congrArg (fun f => qzu f ((σ 86 50) : Int).toNat x2) ((congrFun e1449 116).trans ((qw_r_ne (by decide)).trans hk1433)))))) ((congrFun (congrFun e1457 86) 50).trans rfl) ((congrFun (congrFun e1457 86) 6).trans ((congrFun (congrFun e1445 86) 6).trans ((hk1428).trans rfl))) (by have hw : σ1456 86 10 = v1443 := (congrFun (congrFun e1457 86) 10).trans ((congrFun (congrFun e1445 86) 10).trans rfl); rw [hw, ql_val hev1443 (by omega) (ql_or_r _ _), ql_val hev1442 (by omega) (ql_shl_r _ _)])), (by have hb := hx1435; show ((α1452 87, α1452 88, α1452 89, α1452 90, σ1456 86 5, σ1456 86 4) : qHS) = qkn (s.2.2.2 ++ qBr (qPk (qHr σ A x3 s.2.2.1 ((100 * x1 + x2) / 100) ((100 * x1 + x2) % 100)) (qBm σ A ((100 * x1 + x2) / 100))) (σ 86 24 : Int).toNat) h0; rw [show (100 * x1 + x2) / 100 = x1 by omega, show (100 * x1 + x2) % 100 = x2 by omega, show (σ 86 24 : Int).toNat = (u1423 : Int).toNat by rw [show σ 86 24 = u1423 by omega], show α1452 87 = (α1425 87) from ((congrFun e1453 87).trans ((qw_r_ne (by decide)).trans ((congrFun e1449 87).trans ((qw_r_ne (by decide)).trans rfl)))), show α1452 88 = (α1425 88) from ((congrFun e1453 88).trans ((qw_r_ne (by decide)).trans ((congrFun e1449 88).trans ((qw_r_ne (by decide)).trans rfl)))), show α1452 89 = (α1425 89) from ((congrFun e1453 89).trans ((qw_r_ne (by decide)).trans ((congrFun e1449 89).trans ((qw_r_ne (by decide)).trans rfl)))), show α1452 90 = (α1425 90) from ((congrFun e1453 90).trans ((qw_r_ne (by decide)).trans ((congrFun e1449 90).trans ((qw_r_ne (by decide)).trans rfl)))), show σ1456 86 5 = (σ1424 86 5) from (congrFun (congrFun e1457 86) 5).trans ((congrFun (congrFun e1445 86) 5).trans rfl), show σ1456 86 4 = (σ1424 86 4) from (congrFun (congrFun e1457 86) 4).trans ((congrFun (congrFun e1445 86) 4).trans rfl)]; exact hb), (by have hw : σ1456 86 10 = v1443 := (congrFun (congrFun e1457 86) 10).trans ((congrFun (congrFun e1445 86) 10).trans rfl); rw [hw, ql_val hev1443 (by omega) (ql_or_r _ _), ql_val hev1442 (by omega) (ql_shl_r _ _)])⟩
      · skip
        have hd1460 := qDd_of (h := h0) (qBk_land (P := (qPk (qHr σ A x3 s.2.2.1 x1 x2) (qBm σ A x1))) (n := (u1423 : Int).toNat) (by omega) p5) (congrArg (fun t : qHS => t.1) hx1435)
        rw [p6.1] at hd1460
        have hz1461 := qZk_d (σ := σ) (α := A) (σn := σ1424) (αn := α1425) (hF1427.1 86 24 (by decide)) (by omega) (show α1425 104 = A 104 by rw [hF1427.2 104 (by decide)]; exact p6.2.2.2.1) (show α1425 105 = A 105 by rw [hF1427.2 105 (by decide)]; exact p6.2.2.2.2.1) hd1460 p1
        refine qr_aload_n 13 rfl g1417 rfl ?_
        refine qr_iload 15 rfl g1422 rfl ?_
        refine qr_iload_n 16 rfl g1418 rfl ?_
        refine qr_iload_n 17 rfl g1419 rfl ?_
        refine qr_iload_n 18 rfl g1420 rfl ?_
        have hs1462 : 0 ≤ σ1424 86 24 ∧ σ1424 86 24 ≤ 60 := hI1426.1 86 24
        have hs1463 : σ1424 86 24 = (σ 86 24) := (hk1430).trans rfl
        have hs1464 : 0 ≤ σ1424 86 6 ∧ σ1424 86 6 ≤ 32 := hI1426.1 86 6
        have hs1465 : σ1424 86 6 = (σ 86 6) := (hk1428).trans rfl
        refine qr_callN 21 rfl rfl rfl (sf_205_86x (d := d + 0) hI1426 (by omega) (by omega) (by omega) (by omega) (by omega) (by have hw := hF1427.1 86 24 (by decide); omega) hz1461 (by have hw := hF1427.1 86 6 (by decide); omega)) ?_
        have hs1468 : (-9223372036854775808) ≤ σ1424 86 29 ∧ σ1424 86 29 ≤ 9223372036854775807 := hI1426.1 86 29
        rintro _ _ ⟨rfl, v1466, rfl, hv1466, hp1467⟩
        show qr_W (qe L xs vb) (d + 3) qx_e247 _ (21, _, [.int (qz v1466)], qw σ1424 α1425 κ ρ, 0, 0)
        have hh1469 := qdd_hold (σ := σ) (A := A) (αn := α1425) (m := A 87) (show α1425 102 = A 102 by rw [hF1427.2 102 (by decide)]; exact p6.2.1) (show α1425 103 = A 103 by rw [hF1427.2 103 (by decide)]; exact p6.2.2.1) (show α1425 104 = A 104 by rw [hF1427.2 104 (by decide)]; exact p6.2.2.2.1) (show α1425 105 = A 105 by rw [hF1427.2 105 (by decide)]; exact p6.2.2.2.2.1) (show α1425 91 = A 91 by rw [hF1427.2 91 (by decide)]; exact p6.2.2.2.2.2) hd1460 (by omega) (by omega) (by omega) ((hF1427.1 86 29 (by decide)).trans p4) hp1467
        refine qr_if_eq 80 24 rfl rfl rfl (by omega) (fun h1470 => ?_) (fun h1470 => ?_)
        · skip
          refine qr_iinc _ 83 rfl g1422 (by decide) rfl rfl ?_
          refine qr_goto 3 rfl rfl ?_
          exact ih1438 _ (u1423 + 1) σ1424 α1425 (by omega) (qm_gk g1417 (by decide) (Or.inl (by decide))) (qm_gk g1418 (by decide) (Or.inl (by decide))) (qm_gk g1419 (by decide) (Or.inl (by decide))) (qm_gk g1420 (by decide) (Or.inl (by decide))) (qm_gk g1421 (by decide) (Or.inr rfl)) (qm_ge _ _ _) (by omega) hI1426 hF1427 ((hk1428).trans rfl) ((hk1429).trans rfl) ((hk1430).trans rfl) ((hk1431).trans rfl) hk1432 hk1433 ((hx1435).trans (qdd_list (by omega) (by have a1 := qPk_c (qHr σ A x3 s.2.2.1 x1 x2) (qBm σ A x1) (u1423 : Int).toNat; have a4 : (qBm σ A x1 (u1423 : Int).toNat = 1 ∧ (A 102 (u1423 : Int).toNat = x1 ∨ qcw (A 87) (u1423 : Int).toNat x1 = 1)) ∨ (qBm σ A x1 (u1423 : Int).toNat = 0 ∧ ¬ (A 102 (u1423 : Int).toNat = x1 ∨ qcw (A 87) (u1423 : Int).toNat x1 = 1)) := qbF_d (A 102) (qcw (A 87)) x1 (u1423 : Int).toNat; have a5 := hh1469; omega)).symm) (by omega)
        · skip
          refine qr_aload_n 25 rfl g1417 rfl ?_
          refine qr_get 28 rfl rfl rfl (by decide) rfl ?_
          refine qr_iload 30 rfl g1422 rfl ?_
          refine qr_iaload 31 rfl rfl (by omega) (by decide) rfl ?_
          refine qr_topI (fun v1471 hv1471 => ?_)
          have hs1472 : 0 ≤ v1471 ∧ v1471 ≤ 31 := by rw [hv1471]; exact hI1426.2.1 102 _ (show _ < 60 by omega)
          refine qr_iload_n 32 rfl g1418 rfl ?_
          refine qr_icmp_eq 45 35 rfl rfl rfl (by omega) (by omega) (fun h1473 => ?_) (fun h1473 => ?_)
          · skip
            refine qr_iload 47 rfl g1421 rfl ?_
            refine qr_if_eq 67 50 rfl rfl rfl (by omega) (fun h => False.elim (by omega)) (fun h1474 => ?_)
            refine qr_aload_n 51 rfl g1417 rfl ?_
            refine qr_sipush 54 rfl (by decide) rfl ?_
            refine qr_iload 56 rfl g1422 rfl ?_
            refine qr_iadd 57 rfl rfl ?_
            refine qr_bipush 59 rfl (by decide) rfl ?_
            refine qr_callN 62 rfl rfl rfl (sf_183_86x (d := d + 2) hI1426 (by omega) (by omega)) ?_
            rintro _ _ ⟨σ1478, α1479, rfl, hI1480, hG1481, v1475, rfl, hv1475, hp1476, hx1477⟩
            have hF1482 : qFr [(86, 4), (86, 5), (86, 10), (86, 50)] [87, 88, 89, 90, 115, 116] σ α σ1478 α1479 := qFr_t hF1427 hG1481 (by decide) (by decide)
            show qr_W (qe L xs vb) (d + 3) qx_e247 _ (62, _, [.int (qz v1475)], qw σ1478 α1479 κ ρ, 0, 0)
            refine qr_istore _ 64 rfl (by decide) rfl rfl ?_
            refine qr_goto 80 rfl rfl ?_
            refine qr_iinc _ 83 rfl (qm_gk g1422 (by decide) (Or.inr rfl)) (by decide) rfl rfl ?_
            refine qr_goto 3 rfl rfl ?_
            exact ih1438 _ (u1423 + 1) σ1478 α1479 (by omega) (qm_gk (qm_gk g1417 (by decide) (Or.inl (by decide))) (by decide) (Or.inl (by decide))) (qm_gk (qm_gk g1418 (by decide) (Or.inl (by decide))) (by decide) (Or.inl (by decide))) (qm_gk (qm_gk g1419 (by decide) (Or.inl (by decide))) (by decide) (Or.inl (by decide))) (qm_gk (qm_gk g1420 (by decide) (Or.inl (by decide))) (by decide) (Or.inl (by decide))) (qm_gk (qm_gk g1421 (by decide) (Or.inl (by decide))) (by decide) (Or.inr rfl)) (qm_ge _ _ _) (by omega) hI1480 hF1482 ((hG1481.1 86 6 (by decide)).trans ((hk1428).trans rfl)) ((hG1481.1 86 10 (by decide)).trans ((hk1429).trans rfl)) ((hG1481.1 86 24 (by decide)).trans ((hk1430).trans rfl)) ((hG1481.1 86 50 (by decide)).trans ((hk1431).trans rfl)) ((hG1481.2 115 (by decide)).trans hk1432) ((hG1481.2 116 (by decide)).trans hk1433) ((qdd_tup hx1477).trans (by rw [hx1435]; exact (qdd_lis2 (by omega) (by have a1 := qPk_c (qHr σ A x3 s.2.2.1 x1 x2) (qBm σ A x1) (u1423 : Int).toNat; have a4 : (qBm σ A x1 (u1423 : Int).toNat = 1 ∧ (A 102 (u1423 : Int).toNat = x1 ∨ qcw (A 87) (u1423 : Int).toNat x1 = 1)) ∨ (qBm σ A x1 (u1423 : Int).toNat = 0 ∧ ¬ (A 102 (u1423 : Int).toNat = x1 ∨ qcw (A 87) (u1423 : Int).toNat x1 = 1)) := qbF_d (A 102) (qcw (A 87)) x1 (u1423 : Int).toNat; have a5 := hh1469; have a6 : v1471 = A 102 (u1423 : Int).toNat := (by rw [hv1471]; exact congrFun (show α1425 102 = A 102 by rw [hF1427.2 102 (by decide)]; exact p6.2.1) _); omega)).symm)) (by omega)
          · skip
            refine qr_aload_n 36 rfl g1417 rfl ?_
            refine qr_iload 38 rfl g1422 rfl ?_
            refine qr_iload_n 39 rfl g1418 rfl ?_
            refine qr_callN 42 rfl rfl rfl (sf_202_86x (d := d + 2) hI1426 (by omega) (by omega)) ?_
            rintro _ _ ⟨rfl, v1483, rfl, hv1483, hp1484⟩
            show qr_W (qe L xs vb) (d + 3) qx_e247 _ (42, _, [.int (qz v1483)], qw σ1424 α1425 κ ρ, 0, 0)
            have hc1485 := hp1484
            rw [qDd_cw hd1460 (by omega) (by omega)] at hc1485
            refine qr_if_eq 80 45 rfl rfl rfl (by omega) (fun h1486 => ?_) (fun h1486 => ?_)
            · skip
              refine qr_iinc _ 83 rfl g1422 (by decide) rfl rfl ?_
              refine qr_goto 3 rfl rfl ?_
              exact ih1438 _ (u1423 + 1) σ1424 α1425 (by omega) (qm_gk g1417 (by decide) (Or.inl (by decide))) (qm_gk g1418 (by decide) (Or.inl (by decide))) (qm_gk g1419 (by decide) (Or.inl (by decide))) (qm_gk g1420 (by decide) (Or.inl (by decide))) (qm_gk g1421 (by decide) (Or.inr rfl)) (qm_ge _ _ _) (by omega) hI1426 hF1427 ((hk1428).trans rfl) ((hk1429).trans rfl) ((hk1430).trans rfl) ((hk1431).trans rfl) hk1432 hk1433 ((hx1435).trans (qdd_list (by omega) (by have a1 := qPk_c (qHr σ A x3 s.2.2.1 x1 x2) (qBm σ A x1) (u1423 : Int).toNat; have a4 : (qBm σ A x1 (u1423 : Int).toNat = 1 ∧ (A 102 (u1423 : Int).toNat = x1 ∨ qcw (A 87) (u1423 : Int).toNat x1 = 1)) ∨ (qBm σ A x1 (u1423 : Int).toNat = 0 ∧ ¬ (A 102 (u1423 : Int).toNat = x1 ∨ qcw (A 87) (u1423 : Int).toNat x1 = 1)) := qbF_d (A 102) (qcw (A 87)) x1 (u1423 : Int).toNat; have a5 := hh1469; have a6 : v1471 = A 102 (u1423 : Int).toNat := (by rw [hv1471]; exact congrFun (show α1425 102 = A 102 by rw [hF1427.2 102 (by decide)]; exact p6.2.1) _); have a7 := hc1485; omega)).symm) (by omega)
            · skip
              refine qr_iload 47 rfl g1421 rfl ?_
              refine qr_if_eq 67 50 rfl rfl rfl (by omega) (fun h => False.elim (by omega)) (fun h1487 => ?_)
              refine qr_aload_n 51 rfl g1417 rfl ?_
              refine qr_sipush 54 rfl (by decide) rfl ?_
              refine qr_iload 56 rfl g1422 rfl ?_
              refine qr_iadd 57 rfl rfl ?_
              refine qr_bipush 59 rfl (by decide) rfl ?_
              refine qr_callN 62 rfl rfl rfl (sf_183_86x (d := d + 2) hI1426 (by omega) (by omega)) ?_
              rintro _ _ ⟨σ1491, α1492, rfl, hI1493, hG1494, v1488, rfl, hv1488, hp1489, hx1490⟩
              have hF1495 : qFr [(86, 4), (86, 5), (86, 10), (86, 50)] [87, 88, 89, 90, 115, 116] σ α σ1491 α1492 := qFr_t hF1427 hG1494 (by decide) (by decide)
              show qr_W (qe L xs vb) (d + 3) qx_e247 _ (62, _, [.int (qz v1488)], qw σ1491 α1492 κ ρ, 0, 0)
              refine qr_istore _ 64 rfl (by decide) rfl rfl ?_
              refine qr_goto 80 rfl rfl ?_
              refine qr_iinc _ 83 rfl (qm_gk g1422 (by decide) (Or.inr rfl)) (by decide) rfl rfl ?_
              refine qr_goto 3 rfl rfl ?_
              exact ih1438 _ (u1423 + 1) σ1491 α1492 (by omega) (qm_gk (qm_gk g1417 (by decide) (Or.inl (by decide))) (by decide) (Or.inl (by decide))) (qm_gk (qm_gk g1418 (by decide) (Or.inl (by decide))) (by decide) (Or.inl (by decide))) (qm_gk (qm_gk g1419 (by decide) (Or.inl (by decide))) (by decide) (Or.inl (by decide))) (qm_gk (qm_gk g1420 (by decide) (Or.inl (by decide))) (by decide) (Or.inl (by decide))) (qm_gk (qm_gk g1421 (by decide) (Or.inl (by decide))) (by decide) (Or.inr rfl)) (qm_ge _ _ _) (by omega) hI1493 hF1495 ((hG1494.1 86 6 (by decide)).trans ((hk1428).trans rfl)) ((hG1494.1 86 10 (by decide)).trans ((hk1429).trans rfl)) ((hG1494.1 86 24 (by decide)).trans ((hk1430).trans rfl)) ((hG1494.1 86 50 (by decide)).trans ((hk1431).trans rfl)) ((hG1494.2 115 (by decide)).trans hk1432) ((hG1494.2 116 (by decide)).trans hk1433) ((qdd_tup hx1490).trans (by rw [hx1435]; exact (qdd_lis2 (by omega) (by have a1 := qPk_c (qHr σ A x3 s.2.2.1 x1 x2) (qBm σ A x1) (u1423 : Int).toNat; have a4 : (qBm σ A x1 (u1423 : Int).toNat = 1 ∧ (A 102 (u1423 : Int).toNat = x1 ∨ qcw (A 87) (u1423 : Int).toNat x1 = 1)) ∨ (qBm σ A x1 (u1423 : Int).toNat = 0 ∧ ¬ (A 102 (u1423 : Int).toNat = x1 ∨ qcw (A 87) (u1423 : Int).toNat x1 = 1)) := qbF_d (A 102) (qcw (A 87)) x1 (u1423 : Int).toNat; have a5 := hh1469; have a6 : v1471 = A 102 (u1423 : Int).toNat := (by rw [hv1471]; exact congrFun (show α1425 102 = A 102 by rw [hF1427.2 102 (by decide)]; exact p6.2.1) _); have a7 := hc1485; omega)).symm)) (by omega)
  exact hL1437 ((60 - 0 + 1 : Int)).toNat _ 0 σ α (by omega) rfl rfl rfl rfl rfl rfl (by omega) hI hF0 (rfl) (rfl) (rfl) (rfl) rfl rfl (by rw [show qBr (qPk (qHr σ A x3 s.2.2.1 x1 x2) (qBm σ A x1)) (0 : Int).toNat = [] from rfl, List.append_nil]; exact p7) (by omega)

set_option maxHeartbeats 4000000 in
set_option maxRecDepth 20000 in
/-- OneRoofModel.goesOn -/
theorem sf_246_86x1 {L : Nat} {xs : Nat → Int} {vb : Bool} {d : Nat} {σ α : Nat → Nat → Int} {κ : Nat → Option Nat} {ρ : Nat} {x1 : Int} {x2 : Int} {x3 : Int} {g0 g1 : (Nat → Int) → Int} (hI : qI σ α κ ρ) (r1 : 0 ≤ x1 ∧ x1 ≤ 3131) (r2 : (-9223372036854775808) ≤ x2 ∧ x2 ≤ 9223372036854775807) (r3 : (-2147483648) ≤ x3 ∧ x3 ≤ 2147483647) (p0 : 1 ≤ σ 86 6) (p1 : x1 / 100 < σ 86 6 ∧ x1 % 100 < σ 86 6 ∧ ¬ x1 / 100 = x1 % 100) (p2 : qPG σ α 0 g0) (p3 : qPG σ α 1 g1) (p4 : qZf σ α) (p5 : qZk σ α) (p6 : σ 86 29 = 0) (p7 : σ 86 41 = 0) (p8 : qbit x2 (x1 % 100) = 1) : qm_T (qe L xs vb) (d + 49) 246 [.ref 86, .int (qz x1), .long (ql x2), .int (qz x3), .int (qz 1)] (qw σ α κ ρ) (fun r w' => ∃ σ' α', w' = qw σ' α' κ ρ ∧ qI σ' α' κ ρ ∧ qFr [(86, 4), (86, 5), (86, 10), (86, 15), (86, 23), (86, 30), (86, 35), (86, 36), (86, 37), (86, 38), (86, 39), (86, 50), (86, 51)] [87, 88, 89, 90, 96, 109, 115, 116] σ α σ' α' ∧ r = none ∧ qTr σ' α' x2 (qtell (qHr σ α x3) (qBm σ α) (σ 86 24 : Int).toNat (qWr σ α g0 g1 x3) (σ 86 6) 30 (qland (qHr σ α x3) (qBm σ α) (σ 86 24 : Int).toNat ([], ql_and x2 (ql_xor (σ 86 10) (-1)), 0, []) x1)) ∧ σ' 86 51 = ((qtell (qHr σ α x3) (qBm σ α) (σ 86 24 : Int).toNat (qWr σ α g0 g1 x3) (σ 86 6) 30 (qland (qHr σ α x3) (qBm σ α) (σ 86 24 : Int).toNat ([], ql_and x2 (ql_xor (σ 86 10) (-1)), 0, []) x1))).2.1 ∧ ((α' 87, α' 88, α' 89, α' 90, σ' 86 5, σ' 86 4) : qHS) = qkn ((qtell (qHr σ α x3) (qBm σ α) (σ 86 24 : Int).toNat (qWr σ α g0 g1 x3) (σ 86 6) 30 (qland (qHr σ α x3) (qBm σ α) (σ 86 24 : Int).toNat ([], ql_and x2 (ql_xor (σ 86 10) (-1)), 0, []) x1))).2.2.2 ((α 87, α 88, α 89, α 90, σ 86 5, σ 86 4) : qHS) ∧ qDe (σ 86 10) (σ' 86 10) x2) := by
  refine qr_start (d := d + 48) qv_e246 (Nat.le_of_ble_eq_true rfl) ?_
  show qr_W (qe L xs vb) (d + 48) qx_e246 _ (0, [(0, .ref 86), (1, .int (qz x1)), (2, .long (ql x2)), (4, .int (qz x3)), (5, .int (qz 1))], [], _, 0, 0)
  have hF0 := qFr_rf [(86, 4), (86, 5), (86, 10), (86, 15), (86, 23), (86, 30), (86, 35), (86, 36), (86, 37), (86, 38), (86, 39), (86, 50), (86, 51)] [87, 88, 89, 90, 96, 109, 115, 116] σ α
  have hz86_6 : 0 ≤ σ 86 6 ∧ σ 86 6 ≤ 32 := hI.1 86 6
  have hz86_29 : (-9223372036854775808) ≤ σ 86 29 ∧ σ 86 29 ≤ 9223372036854775807 := hI.1 86 29
  have hz86_41 : 0 ≤ σ 86 41 ∧ σ 86 41 ≤ 1 := hI.1 86 41
  have hz86_4 : 0 ≤ σ 86 4 ∧ σ 86 4 ≤ 40 := hI.1 86 4
  have hz86_5 : 0 ≤ σ 86 5 ∧ σ 86 5 ≤ 40 := hI.1 86 5
  have hz86_10 : (-9223372036854775808) ≤ σ 86 10 ∧ σ 86 10 ≤ 9223372036854775807 := hI.1 86 10
  have hz86_16 : 0 ≤ σ 86 16 ∧ σ 86 16 ≤ 40 := hI.1 86 16
  have hz86_24 : 0 ≤ σ 86 24 ∧ σ 86 24 ≤ 60 := hI.1 86 24
  have hz86_50 : 0 ≤ σ 86 50 ∧ σ 86 50 ≤ 31 := hI.1 86 50
  refine qr_aload_n 1 rfl rfl rfl ?_
  refine qr_iconst 2 rfl rfl ?_
  refine qr_put 5 rfl (by decide) rfl (Nat.le_of_ble_eq_true rfl) (Nat.le_of_ble_eq_true rfl) (Or.inl rfl) (qr_fitI rfl _) rfl ?_
  refine qy_wS (qw_s σ 86 50 0) rfl (fun σ1 e2 => ?_)
  have hI3 : qI σ1 α κ ρ := by rw [e2]; exact qI_s hI 86 50 rfl (show 0 ≤ 0 ∧ 0 ≤ 31 by omega)
  have hF4 : qFr [(86, 4), (86, 5), (86, 10), (86, 15), (86, 23), (86, 30), (86, 35), (86, 36), (86, 37), (86, 38), (86, 39), (86, 50), (86, 51)] [87, 88, 89, 90, 96, 109, 115, 116] σ α σ1 α := by rw [e2]; exact qFr_s hF0 86 50 _ (by decide)
  refine qr_iload_n 6 rfl rfl rfl ?_
  refine qr_istore _ 8 rfl (by decide) rfl rfl ?_
  have hL341 : ∀ (n : Nat) (ls : qm_L) (u329 : Int) (σ330 α331 : Nat → Nat → Int), ((31 - σ330 86 50).toNat : Int) < (n : Int) → qm_get ls 0 = some (.ref 86) → qm_get ls 2 = some (.long (ql x2)) → qm_get ls 4 = some (.int (qz x3)) → qm_get ls 5 = some (.int (qz 1)) → qm_get ls 6 = some (.int (qz u329)) → ((-1) ≤ u329 ∧ u329 ≤ 3131) → qI σ330 α331 κ ρ → qFr [(86, 4), (86, 5), (86, 10), (86, 15), (86, 23), (86, 30), (86, 35), (86, 36), (86, 37), (86, 38), (86, 39), (86, 50), (86, 51)] [87, 88, 89, 90, 96, 109, 115, 116] σ α σ330 α331 → σ330 86 6 = (σ 86 6) → σ330 86 16 = (σ 86 16) → σ330 86 24 = (σ 86 24) → σ330 86 41 = (σ 86 41) → (∃ s : qTS, qDe (σ 86 10) (σ330 86 10) x2 ∧ (u329 < 0 ∨ qbit x2 (u329 % 100) = 1) ∧ qTr σ330 α331 x2 s ∧ qBk s.2.2.1 s.2.2.2 ∧ ((α331 87, α331 88, α331 89, α331 90, σ330 86 5, σ330 86 4) : qHS) = qkn s.2.2.2 ((α 87, α 88, α 89, α 90, σ 86 5, σ 86 4) : qHS) ∧ ((u329 < 0 ∧ s = (qtell (qHr σ α x3) (qBm σ α) (σ 86 24 : Int).toNat (qWr σ α g0 g1 x3) (σ 86 6) 30 (qland (qHr σ α x3) (qBm σ α) (σ 86 24 : Int).toNat ([], ql_and x2 (ql_xor (σ 86 10) (-1)), 0, []) x1))) ∨ (0 ≤ u329 ∧ qtell (qHr σ α x3) (qBm σ α) (σ 86 24 : Int).toNat (qWr σ α g0 g1 x3) (σ 86 6) (30 - σ330 86 50 : Int).toNat (qland (qHr σ α x3) (qBm σ α) (σ 86 24 : Int).toNat s u329) = (qtell (qHr σ α x3) (qBm σ α) (σ 86 24 : Int).toNat (qWr σ α g0 g1 x3) (σ 86 6) 30 (qland (qHr σ α x3) (qBm σ α) (σ 86 24 : Int).toNat ([], ql_and x2 (ql_xor (σ 86 10) (-1)), 0, []) x1))))) → (u329 = -1 ∨ (0 ≤ u329 ∧ u329 / 100 < σ 86 6 ∧ u329 % 100 < σ 86 6 ∧ ¬ u329 / 100 = u329 % 100 ∧ σ330 86 50 ≤ 30)) → qr_W (qe L xs vb) (d + 48) qx_e246 (fun r w' => ∃ σ' α', w' = qw σ' α' κ ρ ∧ qI σ' α' κ ρ ∧ qFr [(86, 4), (86, 5), (86, 10), (86, 15), (86, 23), (86, 30), (86, 35), (86, 36), (86, 37), (86, 38), (86, 39), (86, 50), (86, 51)] [87, 88, 89, 90, 96, 109, 115, 116] σ α σ' α' ∧ r = none ∧ qTr σ' α' x2 (qtell (qHr σ α x3) (qBm σ α) (σ 86 24 : Int).toNat (qWr σ α g0 g1 x3) (σ 86 6) 30 (qland (qHr σ α x3) (qBm σ α) (σ 86 24 : Int).toNat ([], ql_and x2 (ql_xor (σ 86 10) (-1)), 0, []) x1)) ∧ σ' 86 51 = ((qtell (qHr σ α x3) (qBm σ α) (σ 86 24 : Int).toNat (qWr σ α g0 g1 x3) (σ 86 6) 30 (qland (qHr σ α x3) (qBm σ α) (σ 86 24 : Int).toNat ([], ql_and x2 (ql_xor (σ 86 10) (-1)), 0, []) x1))).2.1 ∧ ((α' 87, α' 88, α' 89, α' 90, σ' 86 5, σ' 86 4) : qHS) = qkn ((qtell (qHr σ α x3) (qBm σ α) (σ 86 24 : Int).toNat (qWr σ α g0 g1 x3) (σ 86 6) 30 (qland (qHr σ α x3) (qBm σ α) (σ 86 24 : Int).toNat ([], ql_and x2 (ql_xor (σ 86 10) (-1)), 0, []) x1))).2.2.2 ((α 87, α 88, α 89, α 90, σ 86 5, σ 86 4) : qHS) ∧ qDe (σ 86 10) (σ' 86 10) x2) (8, ls, [], qw σ330 α331 κ ρ, 0, 0) := by
    intro n
    induction n with
    | zero => intro ls u329 σ330 α331 hm g324 g325 g326 g327 g328 hf338 hI332 hF333 hk334 hk335 hk336 hk337 hx339 hx340; exact False.elim (by omega)
    | succ n ih342 =>
      intro ls u329 σ330 α331 hm g324 g325 g326 g327 g328 hf338 hI332 hF333 hk334 hk335 hk336 hk337 hx339 hx340
      have hs343 : 0 ≤ σ330 86 50 ∧ σ330 86 50 ≤ 31 := hI332.1 86 50
      obtain ⟨s344, hd349, hd350, ht345, ht346, ht347, ht348⟩ := hx339
      refine qr_iload 10 rfl g328 rfl ?_
      refine qr_if_lt 56 13 rfl rfl rfl (by omega) (fun h351 => ?_) (fun h351 => ?_)
      · skip
        have ht352 := qgo_e ht348 (by omega)
        refine qr_aload_n 57 rfl g324 rfl ?_
        refine qr_lload_n 58 rfl g325 rfl ?_
        refine qr_aload_n 59 rfl g324 rfl ?_
        refine qr_get 62 rfl rfl rfl (by decide) rfl ?_
        have hs353 : (-9223372036854775808) ≤ σ330 86 10 ∧ σ330 86 10 ≤ 9223372036854775807 := hI332.1 86 10
        refine qr_ldc2 (-1) 65 rfl (by decide) rfl ?_
        refine qr_lxor 66 rfl rfl ?_
        refine qy_canlE (fun v354 hv354 hev354 => ?_)
        refine qr_land 67 rfl rfl ?_
        refine qy_canlE (fun v355 hv355 hev355 => ?_)
        refine qr_put 70 rfl (by decide) rfl (Nat.le_of_ble_eq_true rfl) (Nat.le_of_ble_eq_true rfl) (Or.inl rfl) (qr_fitL rfl _) rfl ?_
        refine qy_wS (qw_s σ330 86 51 v355) rfl (fun σ356 e357 => ?_)
        have hI358 : qI σ356 α331 κ ρ := by rw [e357]; exact qI_s hI332 86 51 rfl (show (-9223372036854775808) ≤ v355 ∧ v355 ≤ 9223372036854775807 by omega)
        have hF359 : qFr [(86, 4), (86, 5), (86, 10), (86, 15), (86, 23), (86, 30), (86, 35), (86, 36), (86, 37), (86, 38), (86, 39), (86, 50), (86, 51)] [87, 88, 89, 90, 96, 109, 115, 116] σ α σ356 α331 := by rw [e357]; exact qFr_s hF333 86 51 _ (by decide)
        have hk360 : σ356 86 50 = σ330 86 50 := (congrFun (congrFun e357 86) 50)
        have hk361 : σ356 86 6 = σ330 86 6 := (congrFun (congrFun e357 86) 6)
        have hk362 : σ356 86 10 = σ330 86 10 := (congrFun (congrFun e357 86) 10)
        refine qr_retV rfl rfl (by decide) (by decide) ?_
        exact ⟨_, _, rfl, hI358, hF359, rfl, (by rw [← ht352]; exact qTr_c (rfl) (rfl) (hk360) (hk361) (hk362) ht345), (by rw [← ht352, show σ356 86 51 = v355 from (congrFun (congrFun e357 86) 51).trans rfl, ql_val hev355 (by omega) (ql_and_r _ _), ql_val hev354 (by omega) (ql_xor_r _ _)]; exact ht345.2), (by rw [← ht352, show σ356 86 5 = σ330 86 5 from (congrFun (congrFun e357 86) 5), show σ356 86 4 = σ330 86 4 from (congrFun (congrFun e357 86) 4)]; exact ht347), (by rw [show σ356 86 10 = σ330 86 10 from (congrFun (congrFun e357 86) 10)]; exact hd349)⟩
      · skip
        have ht363 := qgo_u ht348 (by omega)
        refine qr_aload_n 14 rfl g324 rfl ?_
        refine qr_iload 16 rfl g328 rfl ?_
        refine qr_bipush 18 rfl (by decide) rfl ?_
        refine qr_idiv 19 rfl (by omega) (by omega) rfl ?_
        refine qr_iload 21 rfl g328 rfl ?_
        refine qr_bipush 23 rfl (by decide) rfl ?_
        refine qr_irem 24 rfl (by omega) (by omega) rfl ?_
        refine qr_iload 26 rfl g326 rfl ?_
        refine qr_iload 28 rfl g327 rfl ?_
        have hs364 : (-9223372036854775808) ≤ σ330 86 29 ∧ σ330 86 29 ≤ 9223372036854775807 := hI332.1 86 29
        have hs365 : 0 ≤ σ330 86 4 ∧ σ330 86 4 ≤ 40 := hI332.1 86 4
        have hs366 : 0 ≤ σ330 86 5 ∧ σ330 86 5 ≤ 40 := hI332.1 86 5
        have hs367 : 0 ≤ σ330 86 50 ∧ σ330 86 50 ≤ 31 := hI332.1 86 50
        have hs368 : 0 ≤ σ330 86 6 ∧ σ330 86 6 ≤ 32 := hI332.1 86 6
        have hs369 : σ330 86 6 = (σ 86 6) := (hk334).trans rfl
        refine qr_callN 31 rfl rfl rfl (sf_247_86x1 (d := d + 44) hI332 (by omega) (by omega) (by omega) (by omega) (fun k hk => p5 k (by have hw := hF333.1 86 24 (by decide); omega)) (by have hw := hF333.1 86 6 (by decide); omega) (by omega) ((hF333.1 86 29 (by decide)).trans p6) ht346 ⟨rfl, hF333.2 102 (by decide), hF333.2 103 (by decide), hF333.2 104 (by decide), hF333.2 105 (by decide), hF333.2 91 (by decide)⟩ ht347 ht345) ?_
        rintro _ _ ⟨σ374, α375, rfl, hI376, hG377, hw373, rfl, hx370, hx371, hx372⟩
        have hF378 : qFr [(86, 4), (86, 5), (86, 10), (86, 15), (86, 23), (86, 30), (86, 35), (86, 36), (86, 37), (86, 38), (86, 39), (86, 50), (86, 51)] [87, 88, 89, 90, 96, 109, 115, 116] σ α σ374 α375 := qFr_t hF333 hG377 (by decide) (by decide)
        have hs379 : 0 ≤ σ374 86 50 ∧ σ374 86 50 ≤ 31 := hI376.1 86 50
        show qr_W (qe L xs vb) (d + 48) qx_e246 _ (31, _, [], qw σ374 α375 κ ρ, 0, 0)
        rw [show qHr σ330 α x3 = qHr σ α x3 from rfl, show qBm σ330 α = qBm σ α from rfl, hF333.1 86 24 (by decide)] at hx370
        rw [show qHr σ330 α x3 = qHr σ α x3 from rfl, show qBm σ330 α = qBm σ α from rfl, hF333.1 86 24 (by decide)] at hx371
        rw [show 100 * (u329 / 100) + u329 % 100 = u329 by omega] at hx370
        rw [show 100 * (u329 / 100) + u329 % 100 = u329 by omega] at hx371
        have hc380 : σ374 86 50 = σ330 86 50 + 1 := hw373
        have ht381 : qBk (qland (qHr σ α x3) (qBm σ α) (σ 86 24 : Int).toNat s344 u329).2.2.1 (qland (qHr σ α x3) (qBm σ α) (σ 86 24 : Int).toNat s344 u329).2.2.2 := qBk_land (by omega) ht346
        have hd382 := qDe_s (by omega) (by rcases hd350 with hw | hw; (omega); (exact hw)) hd349 hx372
        refine qr_aload_n 32 rfl g324 rfl ?_
        refine qr_get 35 rfl rfl rfl (by decide) rfl ?_
        refine qr_bipush 37 rfl (by decide) rfl ?_
        refine qr_icmp_ne 44 40 rfl rfl rfl (by omega) (by omega) (fun h383 => ?_) (fun h383 => ?_)
        · skip
          refine qr_aload_n 45 rfl g324 rfl ?_
          refine qr_lload_n 46 rfl g325 rfl ?_
          refine qr_iload 48 rfl g326 rfl ?_
          have hd384 := qDd_of (h := ((α 87, α 88, α 89, α 90, σ 86 5, σ 86 4) : qHS)) ht381 (congrArg (fun t : qHS => t.1) hx371)
          have hz385 := qZk_d (σ := σ) (α := α) (σn := σ374) (αn := α375) (hF378.1 86 24 (by decide)) (by omega) (hF378.2 104 (by decide)) (hF378.2 105 (by decide)) hd384 p5
          have hs386 : 0 ≤ σ374 86 50 ∧ σ374 86 50 ≤ 31 := hI376.1 86 50
          have hs387 : 0 ≤ σ374 86 6 ∧ σ374 86 6 ≤ 32 := hI376.1 86 6
          have hs388 : σ374 86 6 = (σ 86 6) := (hG377.1 86 6 (by decide)).trans ((hk334).trans rfl)
          refine qr_callN 51 rfl rfl rfl (sf_248_86x (d := d + 0) hI376 (by omega) (by omega) (qPG_fr hF378 (by decide) (by decide) p2) (qPG_fr hF378 (by decide) (by decide) p3) (qZf_fr hF378 (by decide) (by decide) p4) hz385 (qTr_on hx370)) ?_
          rintro _ _ ⟨σ392, α393, rfl, hI394, hG395, v389, rfl, hv389, hp390, hx391⟩
          have hF396 : qFr [(86, 4), (86, 5), (86, 10), (86, 15), (86, 23), (86, 30), (86, 35), (86, 36), (86, 37), (86, 38), (86, 39), (86, 50), (86, 51)] [87, 88, 89, 90, 96, 109, 115, 116] σ α σ392 α393 := qFr_t hF378 hG395 (by decide) (by decide)
          show qr_W (qe L xs vb) (d + 48) qx_e246 _ (51, _, [.int (qz v389)], qw σ392 α393 κ ρ, 0, 0)
          rw [hF378.1 86 6 (by decide)] at hx391
          have hq397 := qtr_n (σ := σ) (α := α) hx370 (fun p q x k1 k2 k3 k4 => by rw [show σ374 86 29 = 0 from (hF378.1 86 29 (by decide)).trans p6, qNVr_d (fun x hx => hF378.2 x ((by decide : ∀ x, x ∈ [91, 94, 95, 97, 98, 99, 100, 102, 103, 104, 105] → ¬ x ∈ [87, 88, 89, 90, 96, 109, 115, 116]) x hx)) (hF378.1 86 6 (by decide)) (hF378.1 86 11 (by decide)) (hF378.1 86 16 (by decide)) (hF378.1 86 22 (by decide)) (hF378.1 86 24 (by decide)) (hF378.1 86 41 (by decide)) (by omega) (by omega) hd384 ⟨k1, by omega⟩ ⟨k3, by omega⟩, qNVr_t p7 (by omega), hx370.2]) (by omega) hx391
          have hq398 := qtr_r (by omega) hx391
          have hq399 := qTr_c (hG395.2 115 (by decide)) (hG395.2 116 (by decide)) (hG395.1 86 50 (by decide)) (hG395.1 86 6 (by decide)) (hG395.1 86 10 (by decide)) hx370
          have hq400 : ((α393 87, α393 88, α393 89, α393 90, σ392 86 5, σ392 86 4) : qHS) = qkn _ _ := (by rw [hG395.2 87 (by decide), hG395.2 88 (by decide), hG395.2 89 (by decide), hG395.2 90 (by decide), hG395.1 86 5 (by decide), hG395.1 86 4 (by decide)]; exact hx371)
          have hq401 := hG395.1 86 50 (by decide)
          have hd402 := hd382
          rw [← hG395.1 86 10 (by decide)] at hd402
          have hd403 := qtr_x (by omega) (by omega) hx391
          refine qr_istore _ 53 rfl (by decide) rfl rfl ?_
          refine qr_goto 8 rfl rfl ?_
          exact ih342 _ v389 σ392 α393 (by have hw0 : σ392 86 50 = (σ374 86 50) := (hG395.1 86 50 (by decide)).trans rfl; omega) (qm_gk g324 (by decide) (Or.inl (by decide))) (qm_gk g325 (by decide) (Or.inl (by decide))) (qm_gk g326 (by decide) (Or.inl (by decide))) (qm_gk g327 (by decide) (Or.inr rfl)) (qm_ge _ _ _) (by omega) hI394 hF396 ((hG395.1 86 6 (by decide)).trans ((hG377.1 86 6 (by decide)).trans ((hk334).trans rfl))) ((hG395.1 86 16 (by decide)).trans ((hG377.1 86 16 (by decide)).trans ((hk335).trans rfl))) ((hG395.1 86 24 (by decide)).trans ((hG377.1 86 24 (by decide)).trans ((hk336).trans rfl))) ((hG395.1 86 41 (by decide)).trans ((hG377.1 86 41 (by decide)).trans ((hk337).trans rfl))) ⟨_, hd402, hd403, hq399, ht381, hq400, qgo_b (by omega) (by omega) hq397 ht363⟩ (by have hr := hq398; omega)
        · skip
          refine qr_iconst 41 rfl rfl ?_
          refine qr_goto 51 rfl rfl ?_
          refine qr_istore _ 53 rfl (by decide) rfl rfl ?_
          refine qr_goto 8 rfl rfl ?_
          exact ih342 _ (-1) σ374 α375 (by have hw0 : σ374 86 50 = (σ374 86 50) := rfl; omega) (qm_gk g324 (by decide) (Or.inl (by decide))) (qm_gk g325 (by decide) (Or.inl (by decide))) (qm_gk g326 (by decide) (Or.inl (by decide))) (qm_gk g327 (by decide) (Or.inr rfl)) (qm_ge _ _ _) (by omega) hI376 hF378 ((hG377.1 86 6 (by decide)).trans ((hk334).trans rfl)) ((hG377.1 86 16 (by decide)).trans ((hk335).trans rfl)) ((hG377.1 86 24 (by decide)).trans ((hk336).trans rfl)) ((hG377.1 86 41 (by decide)).trans ((hk337).trans rfl)) ⟨_, hd382, Or.inl (by omega), hx370, ht381, hx371, Or.inl ⟨by omega, qgo_a (by omega) ht363⟩⟩ (Or.inl rfl)
  exact hL341 ((((31 - σ1 86 50).toNat : Int) + 1 : Int)).toNat _ x1 σ1 α (by have hw0 : σ1 86 50 = 0 := (congrFun (congrFun e2 86) 50).trans rfl; omega) rfl rfl rfl rfl rfl (by omega) hI3 hF4 ((congrFun (congrFun e2 86) 6).trans rfl) ((congrFun (congrFun e2 86) 16).trans rfl) ((congrFun (congrFun e2 86) 24).trans rfl) ((congrFun (congrFun e2 86) 41).trans rfl) ⟨_, (by rw [show σ1 86 10 = σ 86 10 from (congrFun (congrFun e2 86) 10).trans rfl]; exact qDe_0 _ _), Or.inr p8, qTr_0 ((congrFun (congrFun e2 86) 50).trans rfl) ((congrFun (congrFun e2 86) 10).trans rfl), qBk_0, (by rw [show σ1 86 5 = σ 86 5 from (congrFun (congrFun e2 86) 5).trans rfl, show σ1 86 4 = σ 86 4 from (congrFun (congrFun e2 86) 4).trans rfl]; rfl), Or.inr ⟨by omega, by rw [show σ1 86 50 = 0 from (congrFun (congrFun e2 86) 50).trans rfl]; rfl⟩⟩ (by have hw : σ1 86 50 = 0 := (congrFun (congrFun e2 86) 50).trans rfl; omega)
