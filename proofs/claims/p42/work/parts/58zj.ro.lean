/-! makers and what both sides hold alike -/
theorem qFr_nil {S : List (Nat × Nat)} {R : List Nat} {σ α σ' α' : Nat → Nat → Int} (hG : qFr S R σ α σ' α') (hs : ∀ x ∈ S, σ' x.1 x.2 = σ x.1 x.2) (hr : ∀ a ∈ R, α' a = α a) : qFr [] [] σ α σ' α' := by
  refine ⟨fun a k _ => ?_, fun a _ => ?_⟩
  · by_cases c : (a, k) ∈ S
    · exact hs (a, k) c
    · exact hG.1 a k c
  · by_cases c : a ∈ R
    · exact hr a c
    · exact hG.2 a c
theorem qFr_tr {S1 S2 : List (Nat × Nat)} {R1 R2 : List Nat} {σ α σ1 α1 σ2 α2 : Nat → Nat → Int} (h1 : qFr S1 R1 σ α σ1 α1) (h2 : qFr S2 R2 σ1 α1 σ2 α2) : qFr (S1 ++ S2) (R1 ++ R2) σ α σ2 α2 := by
  refine ⟨fun a k h => ?_, fun a h => ?_⟩
  · rw [h2.1 a k (fun z => h (List.mem_append_right _ z)), h1.1 a k (fun z => h (List.mem_append_left _ z))]
  · rw [h2.2 a (fun z => h (List.mem_append_right _ z)), h1.2 a (fun z => h (List.mem_append_left _ z))]
/-- where a change lies -/
theorem qat_at {po fo eo s p : Int} (h : qpl4 po fo eo s p) (h1 : po ≤ 32) (h2 : fo ≤ 40) (h3 : eo ≤ 60) : (0 ≤ qat s p ∧ qat s p < po) ∨ (32 ≤ qat s p ∧ qat s p < 32 + fo) ∨ (72 ≤ qat s p ∧ qat s p < 72 + 2 * eo) ∨ (192 ≤ qat s p ∧ qat s p < 192 + eo) := by
  unfold qat
  rcases h with h | h | h | h
  · rw [if_pos h.1]; omega
  · rw [if_neg (by omega), if_pos h.1]; omega
  · rw [if_neg (by omega), if_neg (by omega), if_pos h.1]; omega
  · rw [if_neg (by omega), if_neg (by omega), if_neg (by omega)]; omega
/-- along lords, one who came behind does not count -/
theorem qlc_u {ld : Nat → Int} {l x : Int} {s : Nat} (h : ∀ j : Nat, j < s → ld j < (j : Int)) : ∀ (n : Nat) (a : Int), a < (s : Int) → qlc (qzu ld s x) l n a = qlc ld l n a
  | 0, _, _ => rfl
  | n + 1, a, ha => by
    show (if a < 0 then 0 else if a = l then 1 else qlc (qzu ld s x) l n (qzu ld s x a.toNat)) = (if a < 0 then 0 else if a = l then 1 else qlc ld l n (ld a.toNat))
    by_cases c : a < 0
    · rw [if_pos c, if_pos c]
    · have e : qzu ld s x a.toNat = ld a.toNat := if_neg (by omega)
      have hj := h a.toNat (by omega)
      rw [if_neg c, if_neg c, e, qlc_u h n (ld a.toNat) (by omega)]
theorem qll_u {ld : Nat → Int} {l x a : Int} {s : Nat} (h : ∀ j : Nat, j < s → ld j < (j : Int)) (ha : a < (s : Int)) : qll (qzu ld s x) a l = qll ld a l := qlc_u h 33 a ha
theorem qlc_lt {ld : Nat → Int} {l b : Int} (h : ∀ j : Nat, (j : Int) < b → ld j < (j : Int)) : ∀ (n m : Nat) (a : Int), a < (n : Int) → a < (m : Int) → a < b → qlc ld l n a = qlc ld l m a := by
  intro n
  induction n with
  | zero =>
    intro m a h1 h2 h3
    cases m with
    | zero => rfl
    | succ m => exact (if_pos (show a < 0 by omega)).symm
  | succ n ih =>
    intro m a h1 h2 h3
    cases m with
    | zero => exact if_pos (show a < 0 by omega)
    | succ m =>
      show (if a < 0 then 0 else if a = l then 1 else qlc ld l n (ld a.toNat)) = (if a < 0 then 0 else if a = l then 1 else qlc ld l m (ld a.toNat))
      by_cases e : a < 0
      · rw [if_pos e, if_pos e]
      · have hj := h a.toNat (by omega)
        rw [if_neg e, if_neg e, ih m (ld a.toNat) (by omega) (by omega) (by omega)]
/-- a new number that may change -/
theorem qHq_new {σ α σ' α' : Nat → Nat → Int} {m : Nat → Int} {h : (Nat → Int) × (Nat → Int) × (Nat → Int) × Int × Int} {m' : Nat → Int} (hq : qHq σ α (m, h)) (hm : qRm α' m') (hu : ∀ k : Nat, (k : Int) < σ' 34 7 → α' 35 k = 6 ∨ ((0 ≤ α' 35 k ∧ α' 35 k ≤ 5) ∧ qUn α' k (α' 35 k))) (f1 : σ 17 6 ≤ σ' 17 6) (f2 : σ 27 7 ≤ σ' 27 7) (f3 : σ 34 7 ≤ σ' 34 7) (e7 : σ' 76 7 = σ 76 7) (e8 : σ' 76 8 = σ 76 8) (e77 : α' 77 = α 77) (e78 : α' 78 = α 78) (e79 : α' 79 = α 79) (e80 : α' 80 = α 80) (hT : ∀ k : Nat, (k : Int) < σ 34 7 → ∀ b : Int, qUn α k b → qUn α' k b) : qHq σ' α' (m', h) := by
  obtain ⟨_, ⟨g7, g8⟩, hd, hE⟩ := hq
  refine ⟨⟨hm, hu⟩, ⟨e7.trans g7, e8.trans g8⟩, hd, fun j hj => ?_⟩
  have h1 := hE j hj
  rw [e77, e78, e79, e80]
  have h2 := qEn_up h1 f1 f2 f3
  refine ⟨h2.1, h2.2.1, h2.2.2.1, h2.2.2.2.1, fun hs => ?_⟩
  have h3 := h1.2.2.2.2 hs
  refine ⟨h3.1, h3.2.1, hT _ ?_ _ h3.2.2⟩
  have h4 := h1.1
  unfold qpl4 at h4
  omega
theorem qCh_new {m : Nat → Int} {h : (Nat → Int) × (Nat → Int) × (Nat → Int) × Int × Int} {σ α : Nat → Nat → Int} {a : Nat} {x : Int} (hq : qHq σ α (m, h)) (h1 : 0 ≤ σ 17 6 ∧ σ 17 6 ≤ 32) (h2 : 0 ≤ σ 27 7 ∧ σ 27 7 ≤ 40) (h3 : 0 ≤ σ 34 7 ∧ σ 34 7 ≤ 60) (ha : (σ 17 6 ≤ (a : Int) ∧ a < 32) ∨ (32 + σ 27 7 ≤ (a : Int) ∧ a < 72) ∨ (72 + 2 * σ 34 7 ≤ (a : Int) ∧ a < 192) ∨ 192 + σ 34 7 ≤ (a : Int)) {m0 : Nat → Int} (hc : qCh (m0, h)) : qCh (qzu m0 a x, h) := by
  refine qCh_fresh (h := (m0, h)) ⟨hq.2.2.1.1, hq.2.2.1.2.1⟩ (fun j hj => ?_) hc
  have h4 := hq.2.2.2 j hj
  have h5 := qat_at h4.1 h1.2 h2.2 h3.2
  rw [← h4.2.1] at h5
  have h6 : ((m0, h) : qHS).2.1 = h.1 := rfl
  have h7 : ((m, h) : qHS).2.1 = h.1 := rfl
  rw [h6]
  rw [h7] at h5
  omega
/-- people: what both sides keep of them -/
def qPP (σ α : Nat → Nat → Int) (s : Int) (t : qTC) (u : qTM) : Prop := (t.1 = u.1 ∧ t.2.1 = u.2.1) ∧ (σ 17 6 ≤ s ∧ s ≤ 32) ∧ (qHq (qw_s σ 17 6 s) (qw_r α 20 t.2.2.1) (u.2.2, α 88, α 89, α 90, σ 86 5, σ 86 4) ∧ qCh (u.2.2, α 88, α 89, α 90, σ 86 5, σ 86 4)) ∧ (∀ p : Nat, (p : Int) < s → ∀ l : Int, (0 ≤ l ∧ l < 64) → qbit (t.2.2.2 p) l = qll u.1 (p : Int) l) ∧ ∀ p : Nat, (p : Int) < s → u.1 p < (p : Int)
theorem qPP_s {σ α : Nat → Nat → Int} (h2 : 0 ≤ σ 27 7 ∧ σ 27 7 ≤ 40) (h3 : 0 ≤ σ 34 7 ∧ σ 34 7 ≤ 60) (s : Int) (t : qTC) (u : qTM) (l w k : Int) (h0 : 0 ≤ s) (h32 : s < 32) (hf : qfit s l w k) (h : qPP σ α s t u) : qPP σ α (s + 1) (qstc t s l w k) (qstm u s l w k) := by
  obtain ⟨⟨a1, a2⟩, a3, ⟨a4, a5⟩, a6, a7⟩ := h
  have hz : ∀ (f : Nat → Int) (a b : Nat) (x : Int), qzu f a x b = if b = a then x else f b := fun _ _ _ _ => rfl
  obtain ⟨f1, f2, f3⟩ := hf
  have hs1 : ∀ a k : Nat, ¬ (a = 17 ∧ k = 6) → qw_s σ 17 6 (s + 1) a k = qw_s σ 17 6 s a k := fun a k hn => by
    rw [qw_s_ne hn, qw_s_ne hn]
  have hr1 : ∀ a : Nat, ¬ a = 20 → qw_r α 20 (qzu t.2.2.1 s.toNat k) a = qw_r α 20 t.2.2.1 a := fun a hn => by
    rw [qw_r_ne hn, qw_r_ne hn]
  have e6 : qw_s σ 17 6 s 17 6 = s := rfl
  have e6' : qw_s σ 17 6 (s + 1) 17 6 = s + 1 := rfl
  have g27 : qw_s σ 17 6 s 27 7 = σ 27 7 := rfl
  have g34 : qw_s σ 17 6 s 34 7 = σ 34 7 := rfl
  refine ⟨⟨?_, ?_⟩, by omega, ⟨?_, ?_⟩, fun p hp x hx => ?_, fun p hp => ?_⟩
  · show qzu t.1 s.toNat l = qzu u.1 s.toNat l
    rw [a1]
  · show qzu t.2.1 s.toNat w = qzu u.2.1 s.toNat w
    rw [a2]
  · show qHq (qw_s σ 17 6 (s + 1)) (qw_r α 20 (qzu t.2.2.1 s.toNat k)) (qzu u.2.2 s.toNat k, α 88, α 89, α 90, σ 86 5, σ 86 4)
    obtain ⟨m1, m2, m3, m4, m5⟩ := a4.1.1
    have hm : qRm (qw_r α 20 (qzu t.2.2.1 s.toNat k)) (qzu u.2.2 s.toNat k) := by
      refine ⟨fun j hj => ?_, fun j hj => ?_, fun j hj => ?_, fun j hj x hx => ?_, fun j hj => ?_⟩
      · have m := m1 j hj
        rw [qw_r_eq] at m ⊢
        rw [hz, hz, m]
      · have m := m2 j hj
        rw [hr1 33 (by decide), hz, if_neg (by omega)]
        exact m
      · have m := m3 j hj
        rw [hr1 35 (by decide), hz, if_neg (by omega)]
        exact m
      · have m := m4 j hj x hx
        rw [hr1 41 (by decide), m]
        by_cases d : x < 32
        · rw [if_pos d, if_pos d, qcw_o (by omega)]
        · rw [if_neg d, if_neg d]
      · rw [hz]
        split
        · omega
        · exact m5 j hj
    have hU : qUn (qw_r α 20 (qzu t.2.2.1 s.toNat k)) = qUn (qw_r α 20 t.2.2.1) := by
      unfold qUn
      rw [hr1 38 (by decide), hr1 39 (by decide), hr1 40 (by decide)]
    refine qHq_new a4 hm (fun j hj => ?_) (by omega) (Int.le_refl _) (Int.le_refl _) rfl rfl (hr1 77 (by decide)) (hr1 78 (by decide)) (hr1 79 (by decide)) (hr1 80 (by decide)) (fun j _ b hb => by rw [hU]; exact hb)
    rw [hr1 35 (by decide), hU]
    exact a4.1.2 j hj
  · show qCh (qzu u.2.2 s.toNat k, α 88, α 89, α 90, σ 86 5, σ 86 4)
    exact qCh_new a4 (by omega) (by omega) (by omega) (Or.inl ⟨by omega, by omega⟩) a5
  · show qbit (qzu t.2.2.2 s.toNat (ql_or (ql_shl 1 s) (if l < 0 then 0 else t.2.2.2 l.toNat)) p) x = qll (qzu u.1 s.toNat l) (p : Int) x
    have hlow : ∀ j : Nat, j < s.toNat → u.1 j < (j : Int) := fun j hj => a7 j (by omega)
    rw [hz]
    by_cases c : p = s.toNat
    · rw [if_pos c]
      have b1 := qbor_c (ql_shl 1 s) (if l < 0 then 0 else t.2.2.2 l.toNat) x
      have b2 := qbit_shl (p := s) (i := x) (by omega) hx.1
      have hp2 : (p : Int) = s := by omega
      have hunf : qll (qzu u.1 s.toNat l) (p : Int) x = if (p : Int) = x then 1 else qlc (qzu u.1 s.toNat l) x 32 l := by
        have e1 : qll (qzu u.1 s.toNat l) (p : Int) x = (if (p : Int) < 0 then 0 else if (p : Int) = x then 1 else qlc (qzu u.1 s.toNat l) x 32 (qzu u.1 s.toNat l (p : Int).toNat)) := rfl
        rw [e1, if_neg (by omega), Int.toNat_natCast, hz, if_pos c]
      have hl2 : qlc (qzu u.1 s.toNat l) x 32 l = qll (qzu u.1 s.toNat l) l x := by
        by_cases e : l < 0
        · exact (if_pos e : qlc (qzu u.1 s.toNat l) x 32 l = 0).trans (if_pos e : qll (qzu u.1 s.toNat l) l x = 0).symm
        · refine qlc_lt (ld := qzu u.1 s.toNat l) (b := s) (fun j hj => ?_) 32 33 l (by omega) (by omega) (by omega)
          rw [hz, if_neg (by omega)]
          exact a7 j hj
      rw [hunf]
      have r1 := qbit_r (if l < 0 then 0 else t.2.2.2 l.toNat) x
      by_cases d : x = s
      · rw [if_pos d] at b2
        rw [if_pos (show (p : Int) = x by omega)]
        omega
      · rw [if_neg d] at b2
        rw [if_neg (show ¬ (p : Int) = x by omega)]
        by_cases e : l < 0
        · have z1 : (if l < 0 then (0 : Int) else t.2.2.2 l.toNat) = 0 := if_pos e
          have z2 : qlc (qzu u.1 s.toNat l) x 32 l = 0 := if_pos e
          have z3 := qbit_0 x
          rw [z1] at b1 ⊢
          rw [z2]
          omega
        · have z1 : (if l < 0 then (0 : Int) else t.2.2.2 l.toNat) = t.2.2.2 l.toNat := if_neg e
          have z4 := a6 l.toNat (by omega) x hx
          rw [show ((l.toNat : Nat) : Int) = l by omega] at z4
          rw [z1] at b1 r1 ⊢
          rw [hl2, qll_u hlow (by omega), ← z4]
          omega
    · rw [if_neg c, qll_u hlow (by omega)]
      exact a6 p (by omega) x hx
  · show qzu u.1 s.toNat l p < (p : Int)
    rw [hz]
    by_cases c : p = s.toNat
    · rw [if_pos c]
      omega
    · rw [if_neg c]
      exact a7 p (by omega)
theorem qw_s_id {σ : Nat → Nat → Int} {a b : Nat} (x y : Nat) : qw_s σ a b (σ a b) x y = σ x y := by
  unfold qw_s
  by_cases c : x = a
  · rw [if_pos c]
    by_cases d : y = b
    · rw [if_pos d, c, d]
    · rw [if_neg d]
  · rw [if_neg c]
theorem qw_r_id {α : Nat → Nat → Int} {a : Nat} (x : Nat) : qw_r α a (α a) x = α x := by
  by_cases c : x = a
  · rw [c]
    exact qw_r_eq
  · exact qw_r_ne c
theorem qPP_0 {σ α : Nat → Nat → Int} {κ : Nat → Option Nat} {ρ : Nat} (hI : qI σ α κ ρ) (hR : qR σ α) (hH : qRH σ α) (hL : qRL σ α) : qPP σ α (σ 17 6) (α 18, α 19, α 20, α 22) (α 91, α 92, α 87) := by
  have b6 : 0 ≤ σ 86 6 ∧ σ 86 6 ≤ 32 := hI.1 86 6
  have e6 := hR.1
  refine ⟨⟨hR.2.2.2.1, hR.2.2.2.2.1⟩, ⟨Int.le_refl _, by omega⟩, ⟨qHq_c (fun a k _ => qw_s_id a k) (fun a _ => qw_r_id a) hH.1, hH.2⟩, hL, fun p hp => ?_⟩
  have h1 := hI.2.2.2.2.2.2.1 p (by omega)
  show α 91 p < (p : Int)
  omega
theorem ro_pp {σ α σ2 α2 : Nat → Nat → Int} {s : Int} {t : qTC} {u : qTM} (hR : qR σ α) (hF : qRF σ α) (hP : qPP σ α s t u) (hG : qFr [(17, 6), (86, 6), (86, 15)] [18, 19, 20, 22, 87, 91, 92] σ α σ2 α2) (e1 : σ2 17 6 = s) (e2 : σ2 86 6 = s) (et : (α2 18, α2 19, α2 20, α2 22) = t) (eu : (α2 91, α2 92, α2 87) = u) : qR σ2 α2 ∧ qRF σ2 α2 ∧ qRH σ2 α2 ∧ qRL σ2 α2 := by
  subst et
  subst eu
  obtain ⟨⟨a1, a2⟩, a3, ⟨a4, a5⟩, a6, a7⟩ := hP
  refine ⟨?_, ?_, ⟨?_, ?_⟩, ?_⟩
  · obtain ⟨r1, r2, r3, r4, r5, r6, r7, r8, r9⟩ := hR
    refine ⟨by omega, ?_, ?_, a1, a2, ?_, ?_, ?_, ?_⟩
    · rw [hG.1 27 7 (by decide), hG.1 86 16 (by decide)]; exact r2
    · rw [hG.1 34 7 (by decide), hG.1 86 24 (by decide)]; exact r3
    · rw [hG.2 21 (by decide), hG.2 93 (by decide)]; exact r6
    · rw [hG.2 46 (by decide), hG.2 122 (by decide)]; exact r7
    · rw [hG.2 45 (by decide), hG.2 47 (by decide), hG.2 121 (by decide)]; exact r8
    · rw [hG.2 46 (by decide), hG.2 48 (by decide), hG.2 123 (by decide)]; exact r9
  · obtain ⟨f1, f2, f3, f4, f5, f6⟩ := hF
    have r1 := hR.1
    refine ⟨?_, ?_, ?_, ?_, ?_, fun f hf => ?_⟩
    · rw [hG.2 28 (by decide), hG.2 97 (by decide)]; exact f1
    · rw [hG.2 29 (by decide), hG.2 98 (by decide)]; exact f2
    · rw [hG.2 30 (by decide), hG.2 99 (by decide)]; exact f3
    · rw [hG.2 31 (by decide), hG.2 100 (by decide)]; exact f4
    · rw [hG.2 32 (by decide), hG.2 101 (by decide)]; exact f5
    · have h1 := f6 f (by rw [← hG.1 86 16 (by decide)]; exact hf)
      rw [hG.2 97 (by decide), hG.2 98 (by decide)]
      omega
  · rw [hG.2 88 (by decide), hG.2 89 (by decide), hG.2 90 (by decide), hG.1 86 5 (by decide), hG.1 86 4 (by decide)]
    refine qHq_c (σ := qw_s σ 17 6 s) (α := qw_r α 20 (α2 20)) (fun a k hm => ?_) (fun a hm => ?_) a4
    · by_cases c : a = 17 ∧ k = 6
      · rw [c.1, c.2, e1]
        rfl
      · rw [qw_s_ne c]
        refine hG.1 a k (fun hn => ?_)
        revert c
        revert hn
        revert hm
        exact (by decide : ∀ x : Nat × Nat, x ∈ [(17, 6), (27, 7), (34, 7), (76, 7), (76, 8)] → x ∈ [(17, 6), (86, 6), (86, 15)] → ¬ (x.1 = 17 ∧ x.2 = 6) → False) (a, k)
    · by_cases c : a = 20
      · rw [c]
        exact qw_r_eq.symm
      · rw [qw_r_ne c]
        refine hG.2 a (fun hn => ?_)
        revert c
        revert hn
        revert hm
        exact (by decide : ∀ x : Nat, x ∈ [20, 33, 35, 38, 39, 40, 41, 77, 78, 79, 80] → x ∈ [18, 19, 20, 22, 87, 91, 92] → ¬ x = 20 → False) a
  · rw [hG.2 88 (by decide), hG.2 89 (by decide), hG.2 90 (by decide), hG.1 86 5 (by decide), hG.1 86 4 (by decide)]
    exact a5
  · intro p hp l hl
    exact a6 p (by omega) l hl
