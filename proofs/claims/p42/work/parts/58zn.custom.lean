/-! custom: what hangs behind it -/
theorem qFr_up {S S' : List (Nat × Nat)} {R R' : List Nat} {σ α σ' α' : Nat → Nat → Int} (hs : S.all (fun x => S'.contains x) = true) (hr : R.all (fun x => R'.contains x) = true) (h : qFr S R σ α σ' α') : qFr S' R' σ α σ' α' :=
  ⟨fun a k hn => h.1 a k (fun hm => hn (List.contains_iff_mem.mp (List.all_eq_true.mp hs (a, k) hm))), fun a hn => h.2 a (fun hm => hn (List.contains_iff_mem.mp (List.all_eq_true.mp hr a hm)))⟩
theorem qDK_sw {κ : Nat → Option Nat} {ρ c : Nat} {u : Nat} (hu : u = 0 ∨ u = 1) (hc : κ u = some c) (h : qDK κ ρ) : qDK (va_up κ u (some ρ)) c := by
  obtain ⟨a, b, h0, h1, h2, h3, h4⟩ := h
  rcases hu with rfl | rfl
  · have e : a = c := Option.some.inj (h0.symm.trans hc)
    exact ⟨ρ, b, if_pos rfl, (if_neg (by decide)).trans h1, by omega, by omega, by omega⟩
  · have e : b = c := Option.some.inj (h1.symm.trans hc)
    exact ⟨a, ρ, (if_neg (by decide)).trans h0, if_pos rfl, by omega, by omega, by omega⟩
theorem qDK_0 {κ : Nat → Option Nat} {ρ : Nat} (h : qDK κ ρ) : ¬ κ 0 = some ρ := fun z => by
  obtain ⟨a, b, h0, h1, h2, h3, h4⟩ := h
  exact h3 (Option.some.inj (h0.symm.trans z))
theorem qDK_1 {κ : Nat → Option Nat} {ρ : Nat} (h : qDK κ ρ) : ¬ κ 1 = some ρ := fun z => by
  obtain ⟨a, b, h0, h1, h2, h3, h4⟩ := h
  exact h4 (Option.some.inj (h1.symm.trans z))
theorem qPW_k {σ α : Nat → Nat → Int} {κ κ' : Nat → Option Nat} {u : Nat} {f : (Nat → Int) → Int} (e : κ' u = κ u) (h : qPW σ α κ u f) : qPW σ α κ' u f := fun c hc hq => h c (e.symm.trans hc) hq
theorem qPW_n {σ α : Nat → Nat → Int} {κ : Nat → Option Nat} {u a : Nat} {f : (Nat → Int) → Int} (hk : κ u = some a) (hY : ∃ gi : (Nat → Int) → Int, qtx_Y (α (a + 2)) (σ a 5) gi f) (hD : qDep (σ a 6) f) (hC : qCr (α (a + 2)) 0 (σ a 5)) : qPW σ α κ u f := fun c hc _ => by
  have e : c = a := Option.some.inj (hc.symm.trans hk)
  rw [e]
  obtain ⟨gi, hY⟩ := hY
  exact ⟨gi, hY, hD, hC⟩
def qCW (σ α : Nat → Nat → Int) (κ : Nat → Option Nat) (ρ : Nat) (σ' α' : Nat → Nat → Int) (κ' : Nat → Option Nat) (ρ' : Nat) (x v : Int) (W : (Nat → Int) → Int) : Prop := qDK κ ρ → qDK κ' ρ' ∧ ∀ f0 f1 : (Nat → Int) → Int, qPW σ α κ (0 : Int).toNat f0 → qPW σ α κ (1 : Int).toNat f1 → (¬ v = 1 → qPW σ' α' κ' (0 : Int).toNat f0 ∧ qPW σ' α' κ' (1 : Int).toNat f1) ∧ (v = 1 → (x = 0 → qPW σ' α' κ' (0 : Int).toNat W ∧ qPW σ' α' κ' (1 : Int).toNat f1) ∧ (x = 1 → qPW σ' α' κ' (0 : Int).toNat f0 ∧ qPW σ' α' κ' (1 : Int).toNat W))
theorem qCW_id {σ α : Nat → Nat → Int} {κ : Nat → Option Nat} {ρ : Nat} {x v : Int} {W : (Nat → Int) → Int} (hv : ¬ v = 1) : qCW σ α κ ρ σ α κ ρ x v W := fun hd => ⟨hd, fun _ _ h0 h1 => ⟨fun _ => ⟨h0, h1⟩, fun e => absurd e hv⟩⟩
theorem qPW_o50 {σ α σ' α' : Nat → Nat → Int} {κ : Nat → Option Nat} {u : Nat} {f : (Nat → Int) → Int} (hG : qFr [(16, 15), (50, 3), (50, 4), (50, 5), (50, 6), (50, 7)] [51, 52] σ α σ' α') (hn : ¬ κ u = some 50) (h : qPW σ α κ u f) : qPW σ' α' κ u f := by
  intro c hc hq
  have h1 := h c hc hq
  rcases hq with rfl | rfl | rfl
  · exact absurd hc hn
  · rw [hG.2 (54 + 2) (by decide), hG.1 54 5 (by decide), hG.1 54 6 (by decide)]
    exact h1
  · rw [hG.2 (82 + 2) (by decide), hG.1 82 5 (by decide), hG.1 82 6 (by decide)]
    exact h1
theorem qCW_f50 {σ α σ' α' : Nat → Nat → Int} {κ : Nat → Option Nat} {x v : Int} {W : (Nat → Int) → Int} (hG : qFr [(16, 15), (50, 3), (50, 4), (50, 5), (50, 6), (50, 7)] [51, 52] σ α σ' α') (hv : ¬ v = 1) : qCW σ α κ 50 σ' α' κ 50 x v W := fun hd => ⟨hd, fun _ _ h0 h1 => ⟨fun _ => ⟨qPW_o50 hG (qDK_0 hd) h0, qPW_o50 hG (qDK_1 hd) h1⟩, fun e => absurd e hv⟩⟩
theorem qCW_s50 {σ α σ' α' : Nat → Nat → Int} {κ : Nat → Option Nat} {c : Nat} {x v : Int} {W : (Nat → Int) → Int} (hG : qFr [(16, 15), (50, 3), (50, 4), (50, 5), (50, 6), (50, 7)] [51, 52] σ α σ' α') (hx : x = 0 ∨ x = 1) (hc : κ x.toNat = some c) (hv : v = 1) (hY : ∃ gi : (Nat → Int) → Int, qtx_Y (α' 52) (σ' 50 5) gi W) (hD : qDep (σ' 50 6) W) (hC : qCr (α' 52) 0 (σ' 50 5)) : qCW σ α κ 50 σ' α' (va_up κ x.toNat (some 50)) c x v W := fun hd => by
  rcases hx with rfl | rfl
  · refine ⟨qDK_sw (u := 0) (Or.inl rfl) hc hd, fun f0 f1 h0 h1 => ⟨fun e => absurd hv e, fun _ => ⟨fun _ => ⟨qPW_n (a := 50) (if_pos rfl) hY hD hC, qPW_k (if_neg (by decide)) (qPW_o50 hG (qDK_1 hd) h1)⟩, fun e => absurd e (by decide)⟩⟩⟩
  · refine ⟨qDK_sw (u := 1) (Or.inr rfl) hc hd, fun f0 f1 h0 h1 => ⟨fun e => absurd hv e, fun _ => ⟨fun e => absurd e (by decide), fun _ => ⟨qPW_k (if_neg (by decide)) (qPW_o50 hG (qDK_0 hd) h0), qPW_n (a := 50) (if_pos rfl) hY hD hC⟩⟩⟩⟩
theorem qPW_o54 {σ α σ' α' : Nat → Nat → Int} {κ : Nat → Option Nat} {u : Nat} {f : (Nat → Int) → Int} (hG : qFr [(16, 15), (54, 3), (54, 4), (54, 5), (54, 6), (54, 7)] [55, 56] σ α σ' α') (hn : ¬ κ u = some 54) (h : qPW σ α κ u f) : qPW σ' α' κ u f := by
  intro c hc hq
  have h1 := h c hc hq
  rcases hq with rfl | rfl | rfl
  · rw [hG.2 (50 + 2) (by decide), hG.1 50 5 (by decide), hG.1 50 6 (by decide)]
    exact h1
  · exact absurd hc hn
  · rw [hG.2 (82 + 2) (by decide), hG.1 82 5 (by decide), hG.1 82 6 (by decide)]
    exact h1
theorem qCW_f54 {σ α σ' α' : Nat → Nat → Int} {κ : Nat → Option Nat} {x v : Int} {W : (Nat → Int) → Int} (hG : qFr [(16, 15), (54, 3), (54, 4), (54, 5), (54, 6), (54, 7)] [55, 56] σ α σ' α') (hv : ¬ v = 1) : qCW σ α κ 54 σ' α' κ 54 x v W := fun hd => ⟨hd, fun _ _ h0 h1 => ⟨fun _ => ⟨qPW_o54 hG (qDK_0 hd) h0, qPW_o54 hG (qDK_1 hd) h1⟩, fun e => absurd e hv⟩⟩
theorem qCW_s54 {σ α σ' α' : Nat → Nat → Int} {κ : Nat → Option Nat} {c : Nat} {x v : Int} {W : (Nat → Int) → Int} (hG : qFr [(16, 15), (54, 3), (54, 4), (54, 5), (54, 6), (54, 7)] [55, 56] σ α σ' α') (hx : x = 0 ∨ x = 1) (hc : κ x.toNat = some c) (hv : v = 1) (hY : ∃ gi : (Nat → Int) → Int, qtx_Y (α' 56) (σ' 54 5) gi W) (hD : qDep (σ' 54 6) W) (hC : qCr (α' 56) 0 (σ' 54 5)) : qCW σ α κ 54 σ' α' (va_up κ x.toNat (some 54)) c x v W := fun hd => by
  rcases hx with rfl | rfl
  · refine ⟨qDK_sw (u := 0) (Or.inl rfl) hc hd, fun f0 f1 h0 h1 => ⟨fun e => absurd hv e, fun _ => ⟨fun _ => ⟨qPW_n (a := 54) (if_pos rfl) hY hD hC, qPW_k (if_neg (by decide)) (qPW_o54 hG (qDK_1 hd) h1)⟩, fun e => absurd e (by decide)⟩⟩⟩
  · refine ⟨qDK_sw (u := 1) (Or.inr rfl) hc hd, fun f0 f1 h0 h1 => ⟨fun e => absurd hv e, fun _ => ⟨fun e => absurd e (by decide), fun _ => ⟨qPW_k (if_neg (by decide)) (qPW_o54 hG (qDK_0 hd) h0), qPW_n (a := 54) (if_pos rfl) hY hD hC⟩⟩⟩⟩
theorem qPW_o82 {σ α σ' α' : Nat → Nat → Int} {κ : Nat → Option Nat} {u : Nat} {f : (Nat → Int) → Int} (hG : qFr [(16, 15), (82, 3), (82, 4), (82, 5), (82, 6), (82, 7)] [83, 84] σ α σ' α') (hn : ¬ κ u = some 82) (h : qPW σ α κ u f) : qPW σ' α' κ u f := by
  intro c hc hq
  have h1 := h c hc hq
  rcases hq with rfl | rfl | rfl
  · rw [hG.2 (50 + 2) (by decide), hG.1 50 5 (by decide), hG.1 50 6 (by decide)]
    exact h1
  · rw [hG.2 (54 + 2) (by decide), hG.1 54 5 (by decide), hG.1 54 6 (by decide)]
    exact h1
  · exact absurd hc hn
theorem qCW_f82 {σ α σ' α' : Nat → Nat → Int} {κ : Nat → Option Nat} {x v : Int} {W : (Nat → Int) → Int} (hG : qFr [(16, 15), (82, 3), (82, 4), (82, 5), (82, 6), (82, 7)] [83, 84] σ α σ' α') (hv : ¬ v = 1) : qCW σ α κ 82 σ' α' κ 82 x v W := fun hd => ⟨hd, fun _ _ h0 h1 => ⟨fun _ => ⟨qPW_o82 hG (qDK_0 hd) h0, qPW_o82 hG (qDK_1 hd) h1⟩, fun e => absurd e hv⟩⟩
theorem qCW_s82 {σ α σ' α' : Nat → Nat → Int} {κ : Nat → Option Nat} {c : Nat} {x v : Int} {W : (Nat → Int) → Int} (hG : qFr [(16, 15), (82, 3), (82, 4), (82, 5), (82, 6), (82, 7)] [83, 84] σ α σ' α') (hx : x = 0 ∨ x = 1) (hc : κ x.toNat = some c) (hv : v = 1) (hY : ∃ gi : (Nat → Int) → Int, qtx_Y (α' 84) (σ' 82 5) gi W) (hD : qDep (σ' 82 6) W) (hC : qCr (α' 84) 0 (σ' 82 5)) : qCW σ α κ 82 σ' α' (va_up κ x.toNat (some 82)) c x v W := fun hd => by
  rcases hx with rfl | rfl
  · refine ⟨qDK_sw (u := 0) (Or.inl rfl) hc hd, fun f0 f1 h0 h1 => ⟨fun e => absurd hv e, fun _ => ⟨fun _ => ⟨qPW_n (a := 82) (if_pos rfl) hY hD hC, qPW_k (if_neg (by decide)) (qPW_o82 hG (qDK_1 hd) h1)⟩, fun e => absurd e (by decide)⟩⟩⟩
  · refine ⟨qDK_sw (u := 1) (Or.inr rfl) hc hd, fun f0 f1 h0 h1 => ⟨fun e => absurd hv e, fun _ => ⟨fun e => absurd e (by decide), fun _ => ⟨qPW_k (if_neg (by decide)) (qPW_o82 hG (qDK_0 hd) h0), qPW_n (a := 82) (if_pos rfl) hY hD hC⟩⟩⟩⟩
/-! a text laid down -/
def qtp (f s : Nat → Int) (b : Int) : Nat → Nat → Int
  | 0 => f
  | k + 1 => qzu (qtp f s b k) (b + (k : Int)).toNat (s k)
theorem qtp_s {f s : Nat → Int} {b u val : Int} {ix : Nat} (hu : 0 ≤ u) (hi : ix = (b + u).toNat) (hv : val = s u.toNat) : qzu (qtp f s b u.toNat) ix val = qtp f s b (u + 1).toNat := by
  rw [show (u + 1).toNat = u.toNat + 1 by omega]
  show qzu (qtp f s b u.toNat) ix val = qzu (qtp f s b u.toNat) (b + ((u.toNat : Nat) : Int)).toNat (s u.toNat)
  rw [show ((u.toNat : Nat) : Int) = u by omega, hi, hv]
theorem qtp_out {f s : Nat → Int} {b : Int} {i : Nat} : ∀ k : Nat, (∀ j : Nat, j < k → ¬ i = (b + (j : Int)).toNat) → qtp f s b k i = f i
  | 0, _ => rfl
  | k + 1, h => (if_neg (h k (Nat.lt_succ_self k))).trans (qtp_out k (fun j hj => h j (Nat.lt_succ_of_lt hj)))
theorem qtp_in {f s : Nat → Int} {b : Int} (hb : 0 ≤ b) : ∀ (k j : Nat), j < k → qtp f s b k (b.toNat + j) = s j
  | 0, j, h => absurd h (Nat.not_lt_zero j)
  | k + 1, j, h => by
    show (if b.toNat + j = (b + (k : Int)).toNat then s k else qtp f s b k (b.toNat + j)) = s j
    by_cases c : j = k
    · rw [if_pos (by omega), c]
    · rw [if_neg (by omega)]
      exact qtp_in hb k j (by omega)

set_option maxHeartbeats 4000000 in
set_option maxRecDepth 20000 in
/-- OneRoof.custom -/
theorem sf_85_16w50 {L : Nat} {xs : Nat → Int} {vb : Bool} {d : Nat} {σ α : Nat → Nat → Int} {κ : Nat → Option Nat} {x1 : Int} (hI : qI σ α κ 50) (r1 : (-2147483648) ≤ x1 ∧ x1 ≤ 2147483647) (p0 : ∀ j : Nat, (j : Int) < σ 16 15 → 0 ≤ α 81 j ∧ α 81 j ≤ 255) : qm_T (qe L xs vb) (d + 58) 85 [.ref 16, .int (qz x1)] (qw σ α κ 50) (fun r w' => ∃ σ' α' κ' ρ', w' = qw σ' α' κ' ρ' ∧ qI σ' α' κ' ρ' ∧ qFr [(16, 15), (50, 3), (50, 4), (50, 5), (50, 6), (50, 7), (54, 3), (54, 4), (54, 5), (54, 6), (54, 7), (82, 3), (82, 4), (82, 5), (82, 6), (82, 7)] [51, 52, 55, 56, 83, 84] σ α σ' α' ∧ ∃ v : Int, r = some (.int (qz v)) ∧ (-2147483648 ≤ v ∧ v ≤ 2147483647) ∧ ((v = -1 ∧ ¬ (x1 = 0 ∨ x1 = 1) ∧ σ' 16 15 = σ 16 15) ∨ ((x1 = 0 ∨ x1 = 1) ∧ σ' 16 15 = 0 ∧ ((v = 1 ∧ ∀ N, (qtx_W (α 81) (σ 16 15) N).2.2 = 0) ∨ (v ≤ -100 ∧ ∀ N, v = -100 - (qtx_W (α 81) (σ 16 15) N).2.1 ∧ (qtx_W (α 81) (σ 16 15) N).2.2 = 1)))) ∧ qCW σ α κ 50 σ' α' κ' ρ' x1 v (fun N => (qtx_W (α 81) (σ 16 15) N).1)) := by
  refine qr_start (d := d + 57) qv_e85 (Nat.le_of_ble_eq_true rfl) ?_
  show qr_W (qe L xs vb) (d + 57) qx_e85 _ (0, [(0, .ref 16), (1, .int (qz x1))], [], _, 0, 0)
  have hF0 := qFr_rf [(16, 15), (50, 3), (50, 4), (50, 5), (50, 6), (50, 7)] [51, 52] σ α
  have hz16_15 : 0 ≤ σ 16 15 ∧ σ 16 15 ≤ 120 := hI.1 16 15
  refine qr_iload_n 1 rfl rfl rfl ?_
  refine qr_if_eq 11 4 rfl rfl rfl (by omega) (fun h1 => ?_) (fun h1 => ?_)
  · skip
    refine qr_aload_n 12 rfl rfl rfl ?_
    refine qr_get 15 rfl rfl rfl (by decide) rfl ?_
    refine qr_aload_n 16 rfl rfl rfl ?_
    refine qr_get 19 rfl rfl rfl (by decide) rfl ?_
    refine qr_aload_n 20 rfl rfl rfl ?_
    refine qr_get 23 rfl rfl rfl (by decide) rfl ?_
    refine qr_callN 26 rfl rfl rfl (sf_86_50_81x (d := d + 0) hI (by omega) p0) ?_
    rintro _ _ ⟨σ4, α5, rfl, hI6, hG7, v2, rfl, hv2, hx3⟩
    have hF8 : qFr [(16, 15), (50, 3), (50, 4), (50, 5), (50, 6), (50, 7)] [51, 52] σ α σ4 α5 := qFr_t hF0 hG7 (by decide) (by decide)
    show qr_W (qe L xs vb) (d + 57) qx_e85 _ (26, _, [.int (qz v2)], qw σ4 α5 κ 50, 0, 0)
    have hcr : qRt (σ 16 15) (α 81) _ _ _ _ := hx3
    refine qr_istore_n _ 27 rfl (by decide) rfl rfl ?_
    refine qr_aload_n 28 rfl rfl rfl ?_
    refine qr_iconst 29 rfl rfl ?_
    refine qr_put 32 rfl (by decide) rfl (Nat.le_of_ble_eq_true rfl) (Nat.le_of_ble_eq_true rfl) (Or.inl rfl) (qr_fitI rfl _) rfl ?_
    refine qy_wS (qw_s σ4 16 15 0) rfl (fun σ9 e10 => ?_)
    have hI11 : qI σ9 α5 κ 50 := by rw [e10]; exact qI_s hI6 16 15 rfl (show 0 ≤ 0 ∧ 0 ≤ 120 by omega)
    have hF12 : qFr [(16, 15), (50, 3), (50, 4), (50, 5), (50, 6), (50, 7)] [51, 52] σ α σ9 α5 := by rw [e10]; exact qFr_s hF8 16 15 _ (by decide)
    refine qr_iload_n 33 rfl rfl rfl ?_
    refine qr_if_lt 41 36 rfl rfl rfl (by omega) (fun h13 => ?_) (fun h13 => ?_)
    · skip
      refine qr_aload_n 42 rfl rfl rfl ?_
      refine qr_get 45 rfl rfl rfl (by decide) rfl ?_
      refine qr_iload_n 46 rfl rfl rfl ?_
      obtain ⟨c14, hc15, hq16⟩ := qI_k hI11 (y := x1) (by omega)
      refine qr_aaload 47 rfl (by decide) rfl (by omega) (by decide) hc15 rfl ?_
      rcases hq16 with rfl | rfl | rfl
      · skip
        refine qr_astore_n _ 48 rfl (by decide) rfl rfl ?_
        refine qr_aload_n 49 rfl rfl rfl ?_
        refine qr_get 52 rfl rfl rfl (by decide) rfl ?_
        refine qr_iload_n 53 rfl rfl rfl ?_
        refine qr_aload_n 54 rfl rfl rfl ?_
        refine qr_get 57 rfl rfl rfl (by decide) rfl ?_
        refine qr_aastore 58 rfl (by decide) (by decide) rfl rfl (by omega) (by decide) rfl ?_
        show qr_W (qe L xs vb) (d + 57) qx_e85 _ (58, _, [], qw σ9 α5 (va_up κ (x1 : Int).toNat (some 50)) 50, 0, 0)
        refine qr_aload_n 59 rfl rfl rfl ?_
        refine qr_aload_n 60 rfl rfl rfl ?_
        refine qr_put 63 rfl (by decide) rfl (Nat.le_of_ble_eq_true rfl) (Nat.le_of_ble_eq_true rfl) (Or.inl rfl) (qr_fitR (Or.inl ⟨_, rfl⟩) _) rfl ?_
        show qr_W (qe L xs vb) (d + 57) qx_e85 _ (63, _, [], qw σ9 α5 (va_up κ (x1 : Int).toNat (some 50)) 50, 0, 0)
        refine qr_iconst 64 rfl rfl ?_
        have hw17 : σ9 16 15 = 0 := (congrFun (congrFun e10 16) 15).trans rfl
        refine qr_retI rfl rfl (by decide) (by decide) ?_
        exact ⟨_, _, _, _, rfl, qI_sw hI11 (x1 : Int).toNat 50 (Or.inl rfl), (qFr_up (by decide) (by decide) hF12), 1, rfl, by omega, Or.inr ⟨by omega, by omega, Or.inl ⟨by omega, fun N => by rcases hcr with h9 | h9; (exact h9.2.1 N); (exact False.elim (by have := h9.1; omega))⟩⟩, (by rcases (show qRt (σ 16 15) (α 81) _ (σ9 50 5) (σ9 50 6) (α5 52) from by rw [e10]; exact hcr) with h9 | h9; (exact qCW_s50 hF12 (by omega) hc15 (by omega) h9.2.2.1 h9.2.2.2.1 h9.2.2.2.2); (exact False.elim (by have := h9.1; omega)))⟩
      · skip
        refine qr_astore_n _ 48 rfl (by decide) rfl rfl ?_
        refine qr_aload_n 49 rfl rfl rfl ?_
        refine qr_get 52 rfl rfl rfl (by decide) rfl ?_
        refine qr_iload_n 53 rfl rfl rfl ?_
        refine qr_aload_n 54 rfl rfl rfl ?_
        refine qr_get 57 rfl rfl rfl (by decide) rfl ?_
        refine qr_aastore 58 rfl (by decide) (by decide) rfl rfl (by omega) (by decide) rfl ?_
        show qr_W (qe L xs vb) (d + 57) qx_e85 _ (58, _, [], qw σ9 α5 (va_up κ (x1 : Int).toNat (some 50)) 50, 0, 0)
        refine qr_aload_n 59 rfl rfl rfl ?_
        refine qr_aload_n 60 rfl rfl rfl ?_
        refine qr_put 63 rfl (by decide) rfl (Nat.le_of_ble_eq_true rfl) (Nat.le_of_ble_eq_true rfl) (Or.inl rfl) (qr_fitR (Or.inl ⟨_, rfl⟩) _) rfl ?_
        show qr_W (qe L xs vb) (d + 57) qx_e85 _ (63, _, [], qw σ9 α5 (va_up κ (x1 : Int).toNat (some 50)) 54, 0, 0)
        refine qr_iconst 64 rfl rfl ?_
        have hw18 : σ9 16 15 = 0 := (congrFun (congrFun e10 16) 15).trans rfl
        refine qr_retI rfl rfl (by decide) (by decide) ?_
        exact ⟨_, _, _, _, rfl, qI_sw hI11 (x1 : Int).toNat 54 (Or.inr (Or.inl rfl)), (qFr_up (by decide) (by decide) hF12), 1, rfl, by omega, Or.inr ⟨by omega, by omega, Or.inl ⟨by omega, fun N => by rcases hcr with h9 | h9; (exact h9.2.1 N); (exact False.elim (by have := h9.1; omega))⟩⟩, (by rcases (show qRt (σ 16 15) (α 81) _ (σ9 50 5) (σ9 50 6) (α5 52) from by rw [e10]; exact hcr) with h9 | h9; (exact qCW_s50 hF12 (by omega) hc15 (by omega) h9.2.2.1 h9.2.2.2.1 h9.2.2.2.2); (exact False.elim (by have := h9.1; omega)))⟩
      · skip
        refine qr_astore_n _ 48 rfl (by decide) rfl rfl ?_
        refine qr_aload_n 49 rfl rfl rfl ?_
        refine qr_get 52 rfl rfl rfl (by decide) rfl ?_
        refine qr_iload_n 53 rfl rfl rfl ?_
        refine qr_aload_n 54 rfl rfl rfl ?_
        refine qr_get 57 rfl rfl rfl (by decide) rfl ?_
        refine qr_aastore 58 rfl (by decide) (by decide) rfl rfl (by omega) (by decide) rfl ?_
        show qr_W (qe L xs vb) (d + 57) qx_e85 _ (58, _, [], qw σ9 α5 (va_up κ (x1 : Int).toNat (some 50)) 50, 0, 0)
        refine qr_aload_n 59 rfl rfl rfl ?_
        refine qr_aload_n 60 rfl rfl rfl ?_
        refine qr_put 63 rfl (by decide) rfl (Nat.le_of_ble_eq_true rfl) (Nat.le_of_ble_eq_true rfl) (Or.inl rfl) (qr_fitR (Or.inl ⟨_, rfl⟩) _) rfl ?_
        show qr_W (qe L xs vb) (d + 57) qx_e85 _ (63, _, [], qw σ9 α5 (va_up κ (x1 : Int).toNat (some 50)) 82, 0, 0)
        refine qr_iconst 64 rfl rfl ?_
        have hw19 : σ9 16 15 = 0 := (congrFun (congrFun e10 16) 15).trans rfl
        refine qr_retI rfl rfl (by decide) (by decide) ?_
        exact ⟨_, _, _, _, rfl, qI_sw hI11 (x1 : Int).toNat 82 (Or.inr (Or.inr rfl)), (qFr_up (by decide) (by decide) hF12), 1, rfl, by omega, Or.inr ⟨by omega, by omega, Or.inl ⟨by omega, fun N => by rcases hcr with h9 | h9; (exact h9.2.1 N); (exact False.elim (by have := h9.1; omega))⟩⟩, (by rcases (show qRt (σ 16 15) (α 81) _ (σ9 50 5) (σ9 50 6) (α5 52) from by rw [e10]; exact hcr) with h9 | h9; (exact qCW_s50 hF12 (by omega) hc15 (by omega) h9.2.2.1 h9.2.2.2.1 h9.2.2.2.2); (exact False.elim (by have := h9.1; omega)))⟩
    · skip
      refine qr_bipush 38 rfl (by decide) rfl ?_
      refine qr_iload_n 39 rfl rfl rfl ?_
      refine qr_isub 40 rfl rfl ?_
      have hw20 : σ9 16 15 = 0 := (congrFun (congrFun e10 16) 15).trans rfl
      refine qr_retI rfl rfl (by decide) (by decide) ?_
      exact ⟨_, _, _, _, rfl, hI11, (qFr_up (by decide) (by decide) hF12), ((-100) - v2), rfl, by omega, Or.inr ⟨by omega, by omega, Or.inr ⟨by omega, fun N => by rcases hcr with h9 | h9; (exact False.elim (by have := h9.1; omega)); (exact ⟨by have := (h9.2 N).1; omega, (h9.2 N).2⟩)⟩⟩, (qCW_f50 hF12 (by omega))⟩
  · skip
    refine qr_iload_n 5 rfl rfl rfl ?_
    refine qr_iconst 6 rfl rfl ?_
    refine qr_icmp_eq 11 9 rfl rfl rfl (by omega) (by omega) (fun h21 => ?_) (fun h21 => ?_)
    · skip
      refine qr_aload_n 12 rfl rfl rfl ?_
      refine qr_get 15 rfl rfl rfl (by decide) rfl ?_
      refine qr_aload_n 16 rfl rfl rfl ?_
      refine qr_get 19 rfl rfl rfl (by decide) rfl ?_
      refine qr_aload_n 20 rfl rfl rfl ?_
      refine qr_get 23 rfl rfl rfl (by decide) rfl ?_
      refine qr_callN 26 rfl rfl rfl (sf_86_50_81x (d := d + 0) hI (by omega) p0) ?_
      rintro _ _ ⟨σ24, α25, rfl, hI26, hG27, v22, rfl, hv22, hx23⟩
      have hF28 : qFr [(16, 15), (50, 3), (50, 4), (50, 5), (50, 6), (50, 7)] [51, 52] σ α σ24 α25 := qFr_t hF0 hG27 (by decide) (by decide)
      show qr_W (qe L xs vb) (d + 57) qx_e85 _ (26, _, [.int (qz v22)], qw σ24 α25 κ 50, 0, 0)
      have hcr : qRt (σ 16 15) (α 81) _ _ _ _ := hx23
      refine qr_istore_n _ 27 rfl (by decide) rfl rfl ?_
      refine qr_aload_n 28 rfl rfl rfl ?_
      refine qr_iconst 29 rfl rfl ?_
      refine qr_put 32 rfl (by decide) rfl (Nat.le_of_ble_eq_true rfl) (Nat.le_of_ble_eq_true rfl) (Or.inl rfl) (qr_fitI rfl _) rfl ?_
      refine qy_wS (qw_s σ24 16 15 0) rfl (fun σ29 e30 => ?_)
      have hI31 : qI σ29 α25 κ 50 := by rw [e30]; exact qI_s hI26 16 15 rfl (show 0 ≤ 0 ∧ 0 ≤ 120 by omega)
      have hF32 : qFr [(16, 15), (50, 3), (50, 4), (50, 5), (50, 6), (50, 7)] [51, 52] σ α σ29 α25 := by rw [e30]; exact qFr_s hF28 16 15 _ (by decide)
      refine qr_iload_n 33 rfl rfl rfl ?_
      refine qr_if_lt 41 36 rfl rfl rfl (by omega) (fun h33 => ?_) (fun h33 => ?_)
      · skip
        refine qr_aload_n 42 rfl rfl rfl ?_
        refine qr_get 45 rfl rfl rfl (by decide) rfl ?_
        refine qr_iload_n 46 rfl rfl rfl ?_
        obtain ⟨c34, hc35, hq36⟩ := qI_k hI31 (y := x1) (by omega)
        refine qr_aaload 47 rfl (by decide) rfl (by omega) (by decide) hc35 rfl ?_
        rcases hq36 with rfl | rfl | rfl
        · skip
          refine qr_astore_n _ 48 rfl (by decide) rfl rfl ?_
          refine qr_aload_n 49 rfl rfl rfl ?_
          refine qr_get 52 rfl rfl rfl (by decide) rfl ?_
          refine qr_iload_n 53 rfl rfl rfl ?_
          refine qr_aload_n 54 rfl rfl rfl ?_
          refine qr_get 57 rfl rfl rfl (by decide) rfl ?_
          refine qr_aastore 58 rfl (by decide) (by decide) rfl rfl (by omega) (by decide) rfl ?_
          show qr_W (qe L xs vb) (d + 57) qx_e85 _ (58, _, [], qw σ29 α25 (va_up κ (x1 : Int).toNat (some 50)) 50, 0, 0)
          refine qr_aload_n 59 rfl rfl rfl ?_
          refine qr_aload_n 60 rfl rfl rfl ?_
          refine qr_put 63 rfl (by decide) rfl (Nat.le_of_ble_eq_true rfl) (Nat.le_of_ble_eq_true rfl) (Or.inl rfl) (qr_fitR (Or.inl ⟨_, rfl⟩) _) rfl ?_
          show qr_W (qe L xs vb) (d + 57) qx_e85 _ (63, _, [], qw σ29 α25 (va_up κ (x1 : Int).toNat (some 50)) 50, 0, 0)
          refine qr_iconst 64 rfl rfl ?_
          have hw37 : σ29 16 15 = 0 := (congrFun (congrFun e30 16) 15).trans rfl
          refine qr_retI rfl rfl (by decide) (by decide) ?_
          exact ⟨_, _, _, _, rfl, qI_sw hI31 (x1 : Int).toNat 50 (Or.inl rfl), (qFr_up (by decide) (by decide) hF32), 1, rfl, by omega, Or.inr ⟨by omega, by omega, Or.inl ⟨by omega, fun N => by rcases hcr with h9 | h9; (exact h9.2.1 N); (exact False.elim (by have := h9.1; omega))⟩⟩, (by rcases (show qRt (σ 16 15) (α 81) _ (σ29 50 5) (σ29 50 6) (α25 52) from by rw [e30]; exact hcr) with h9 | h9; (exact qCW_s50 hF32 (by omega) hc35 (by omega) h9.2.2.1 h9.2.2.2.1 h9.2.2.2.2); (exact False.elim (by have := h9.1; omega)))⟩
        · skip
          refine qr_astore_n _ 48 rfl (by decide) rfl rfl ?_
          refine qr_aload_n 49 rfl rfl rfl ?_
          refine qr_get 52 rfl rfl rfl (by decide) rfl ?_
          refine qr_iload_n 53 rfl rfl rfl ?_
          refine qr_aload_n 54 rfl rfl rfl ?_
          refine qr_get 57 rfl rfl rfl (by decide) rfl ?_
          refine qr_aastore 58 rfl (by decide) (by decide) rfl rfl (by omega) (by decide) rfl ?_
          show qr_W (qe L xs vb) (d + 57) qx_e85 _ (58, _, [], qw σ29 α25 (va_up κ (x1 : Int).toNat (some 50)) 50, 0, 0)
          refine qr_aload_n 59 rfl rfl rfl ?_
          refine qr_aload_n 60 rfl rfl rfl ?_
          refine qr_put 63 rfl (by decide) rfl (Nat.le_of_ble_eq_true rfl) (Nat.le_of_ble_eq_true rfl) (Or.inl rfl) (qr_fitR (Or.inl ⟨_, rfl⟩) _) rfl ?_
          show qr_W (qe L xs vb) (d + 57) qx_e85 _ (63, _, [], qw σ29 α25 (va_up κ (x1 : Int).toNat (some 50)) 54, 0, 0)
          refine qr_iconst 64 rfl rfl ?_
          have hw38 : σ29 16 15 = 0 := (congrFun (congrFun e30 16) 15).trans rfl
          refine qr_retI rfl rfl (by decide) (by decide) ?_
          exact ⟨_, _, _, _, rfl, qI_sw hI31 (x1 : Int).toNat 54 (Or.inr (Or.inl rfl)), (qFr_up (by decide) (by decide) hF32), 1, rfl, by omega, Or.inr ⟨by omega, by omega, Or.inl ⟨by omega, fun N => by rcases hcr with h9 | h9; (exact h9.2.1 N); (exact False.elim (by have := h9.1; omega))⟩⟩, (by rcases (show qRt (σ 16 15) (α 81) _ (σ29 50 5) (σ29 50 6) (α25 52) from by rw [e30]; exact hcr) with h9 | h9; (exact qCW_s50 hF32 (by omega) hc35 (by omega) h9.2.2.1 h9.2.2.2.1 h9.2.2.2.2); (exact False.elim (by have := h9.1; omega)))⟩
        · skip
          refine qr_astore_n _ 48 rfl (by decide) rfl rfl ?_
          refine qr_aload_n 49 rfl rfl rfl ?_
          refine qr_get 52 rfl rfl rfl (by decide) rfl ?_
          refine qr_iload_n 53 rfl rfl rfl ?_
          refine qr_aload_n 54 rfl rfl rfl ?_
          refine qr_get 57 rfl rfl rfl (by decide) rfl ?_
          refine qr_aastore 58 rfl (by decide) (by decide) rfl rfl (by omega) (by decide) rfl ?_
          show qr_W (qe L xs vb) (d + 57) qx_e85 _ (58, _, [], qw σ29 α25 (va_up κ (x1 : Int).toNat (some 50)) 50, 0, 0)
          refine qr_aload_n 59 rfl rfl rfl ?_
          refine qr_aload_n 60 rfl rfl rfl ?_
          refine qr_put 63 rfl (by decide) rfl (Nat.le_of_ble_eq_true rfl) (Nat.le_of_ble_eq_true rfl) (Or.inl rfl) (qr_fitR (Or.inl ⟨_, rfl⟩) _) rfl ?_
          show qr_W (qe L xs vb) (d + 57) qx_e85 _ (63, _, [], qw σ29 α25 (va_up κ (x1 : Int).toNat (some 50)) 82, 0, 0)
          refine qr_iconst 64 rfl rfl ?_
          have hw39 : σ29 16 15 = 0 := (congrFun (congrFun e30 16) 15).trans rfl
          refine qr_retI rfl rfl (by decide) (by decide) ?_
          exact ⟨_, _, _, _, rfl, qI_sw hI31 (x1 : Int).toNat 82 (Or.inr (Or.inr rfl)), (qFr_up (by decide) (by decide) hF32), 1, rfl, by omega, Or.inr ⟨by omega, by omega, Or.inl ⟨by omega, fun N => by rcases hcr with h9 | h9; (exact h9.2.1 N); (exact False.elim (by have := h9.1; omega))⟩⟩, (by rcases (show qRt (σ 16 15) (α 81) _ (σ29 50 5) (σ29 50 6) (α25 52) from by rw [e30]; exact hcr) with h9 | h9; (exact qCW_s50 hF32 (by omega) hc35 (by omega) h9.2.2.1 h9.2.2.2.1 h9.2.2.2.2); (exact False.elim (by have := h9.1; omega)))⟩
      · skip
        refine qr_bipush 38 rfl (by decide) rfl ?_
        refine qr_iload_n 39 rfl rfl rfl ?_
        refine qr_isub 40 rfl rfl ?_
        have hw40 : σ29 16 15 = 0 := (congrFun (congrFun e30 16) 15).trans rfl
        refine qr_retI rfl rfl (by decide) (by decide) ?_
        exact ⟨_, _, _, _, rfl, hI31, (qFr_up (by decide) (by decide) hF32), ((-100) - v22), rfl, by omega, Or.inr ⟨by omega, by omega, Or.inr ⟨by omega, fun N => by rcases hcr with h9 | h9; (exact False.elim (by have := h9.1; omega)); (exact ⟨by have := (h9.2 N).1; omega, (h9.2 N).2⟩)⟩⟩, (qCW_f50 hF32 (by omega))⟩
    · skip
      refine qr_iconst 10 rfl rfl ?_
      have hw41 : σ 16 15 = (σ 16 15) := rfl
      refine qr_retI rfl rfl (by decide) (by decide) ?_
      exact ⟨_, _, _, _, rfl, hI, (qFr_up (by decide) (by decide) hF0), (-1), rfl, by omega, Or.inl ⟨by omega, by omega, by omega⟩, (qCW_id (by omega))⟩

set_option maxHeartbeats 4000000 in
set_option maxRecDepth 20000 in
/-- OneRoof.custom -/
theorem sf_85_16w54 {L : Nat} {xs : Nat → Int} {vb : Bool} {d : Nat} {σ α : Nat → Nat → Int} {κ : Nat → Option Nat} {x1 : Int} (hI : qI σ α κ 54) (r1 : (-2147483648) ≤ x1 ∧ x1 ≤ 2147483647) (p0 : ∀ j : Nat, (j : Int) < σ 16 15 → 0 ≤ α 81 j ∧ α 81 j ≤ 255) : qm_T (qe L xs vb) (d + 58) 85 [.ref 16, .int (qz x1)] (qw σ α κ 54) (fun r w' => ∃ σ' α' κ' ρ', w' = qw σ' α' κ' ρ' ∧ qI σ' α' κ' ρ' ∧ qFr [(16, 15), (50, 3), (50, 4), (50, 5), (50, 6), (50, 7), (54, 3), (54, 4), (54, 5), (54, 6), (54, 7), (82, 3), (82, 4), (82, 5), (82, 6), (82, 7)] [51, 52, 55, 56, 83, 84] σ α σ' α' ∧ ∃ v : Int, r = some (.int (qz v)) ∧ (-2147483648 ≤ v ∧ v ≤ 2147483647) ∧ ((v = -1 ∧ ¬ (x1 = 0 ∨ x1 = 1) ∧ σ' 16 15 = σ 16 15) ∨ ((x1 = 0 ∨ x1 = 1) ∧ σ' 16 15 = 0 ∧ ((v = 1 ∧ ∀ N, (qtx_W (α 81) (σ 16 15) N).2.2 = 0) ∨ (v ≤ -100 ∧ ∀ N, v = -100 - (qtx_W (α 81) (σ 16 15) N).2.1 ∧ (qtx_W (α 81) (σ 16 15) N).2.2 = 1)))) ∧ qCW σ α κ 54 σ' α' κ' ρ' x1 v (fun N => (qtx_W (α 81) (σ 16 15) N).1)) := by
  refine qr_start (d := d + 57) qv_e85 (Nat.le_of_ble_eq_true rfl) ?_
  show qr_W (qe L xs vb) (d + 57) qx_e85 _ (0, [(0, .ref 16), (1, .int (qz x1))], [], _, 0, 0)
  have hF0 := qFr_rf [(16, 15), (54, 3), (54, 4), (54, 5), (54, 6), (54, 7)] [55, 56] σ α
  have hz16_15 : 0 ≤ σ 16 15 ∧ σ 16 15 ≤ 120 := hI.1 16 15
  refine qr_iload_n 1 rfl rfl rfl ?_
  refine qr_if_eq 11 4 rfl rfl rfl (by omega) (fun h1 => ?_) (fun h1 => ?_)
  · skip
    refine qr_aload_n 12 rfl rfl rfl ?_
    refine qr_get 15 rfl rfl rfl (by decide) rfl ?_
    refine qr_aload_n 16 rfl rfl rfl ?_
    refine qr_get 19 rfl rfl rfl (by decide) rfl ?_
    refine qr_aload_n 20 rfl rfl rfl ?_
    refine qr_get 23 rfl rfl rfl (by decide) rfl ?_
    refine qr_callN 26 rfl rfl rfl (sf_86_54_81x (d := d + 0) hI (by omega) p0) ?_
    rintro _ _ ⟨σ4, α5, rfl, hI6, hG7, v2, rfl, hv2, hx3⟩
    have hF8 : qFr [(16, 15), (54, 3), (54, 4), (54, 5), (54, 6), (54, 7)] [55, 56] σ α σ4 α5 := qFr_t hF0 hG7 (by decide) (by decide)
    show qr_W (qe L xs vb) (d + 57) qx_e85 _ (26, _, [.int (qz v2)], qw σ4 α5 κ 54, 0, 0)
    have hcr : qRt (σ 16 15) (α 81) _ _ _ _ := hx3
    refine qr_istore_n _ 27 rfl (by decide) rfl rfl ?_
    refine qr_aload_n 28 rfl rfl rfl ?_
    refine qr_iconst 29 rfl rfl ?_
    refine qr_put 32 rfl (by decide) rfl (Nat.le_of_ble_eq_true rfl) (Nat.le_of_ble_eq_true rfl) (Or.inl rfl) (qr_fitI rfl _) rfl ?_
    refine qy_wS (qw_s σ4 16 15 0) rfl (fun σ9 e10 => ?_)
    have hI11 : qI σ9 α5 κ 54 := by rw [e10]; exact qI_s hI6 16 15 rfl (show 0 ≤ 0 ∧ 0 ≤ 120 by omega)
    have hF12 : qFr [(16, 15), (54, 3), (54, 4), (54, 5), (54, 6), (54, 7)] [55, 56] σ α σ9 α5 := by rw [e10]; exact qFr_s hF8 16 15 _ (by decide)
    refine qr_iload_n 33 rfl rfl rfl ?_
    refine qr_if_lt 41 36 rfl rfl rfl (by omega) (fun h13 => ?_) (fun h13 => ?_)
    · skip
      refine qr_aload_n 42 rfl rfl rfl ?_
      refine qr_get 45 rfl rfl rfl (by decide) rfl ?_
      refine qr_iload_n 46 rfl rfl rfl ?_
      obtain ⟨c14, hc15, hq16⟩ := qI_k hI11 (y := x1) (by omega)
      refine qr_aaload 47 rfl (by decide) rfl (by omega) (by decide) hc15 rfl ?_
      rcases hq16 with rfl | rfl | rfl
      · skip
        refine qr_astore_n _ 48 rfl (by decide) rfl rfl ?_
        refine qr_aload_n 49 rfl rfl rfl ?_
        refine qr_get 52 rfl rfl rfl (by decide) rfl ?_
        refine qr_iload_n 53 rfl rfl rfl ?_
        refine qr_aload_n 54 rfl rfl rfl ?_
        refine qr_get 57 rfl rfl rfl (by decide) rfl ?_
        refine qr_aastore 58 rfl (by decide) (by decide) rfl rfl (by omega) (by decide) rfl ?_
        show qr_W (qe L xs vb) (d + 57) qx_e85 _ (58, _, [], qw σ9 α5 (va_up κ (x1 : Int).toNat (some 54)) 54, 0, 0)
        refine qr_aload_n 59 rfl rfl rfl ?_
        refine qr_aload_n 60 rfl rfl rfl ?_
        refine qr_put 63 rfl (by decide) rfl (Nat.le_of_ble_eq_true rfl) (Nat.le_of_ble_eq_true rfl) (Or.inl rfl) (qr_fitR (Or.inl ⟨_, rfl⟩) _) rfl ?_
        show qr_W (qe L xs vb) (d + 57) qx_e85 _ (63, _, [], qw σ9 α5 (va_up κ (x1 : Int).toNat (some 54)) 50, 0, 0)
        refine qr_iconst 64 rfl rfl ?_
        have hw17 : σ9 16 15 = 0 := (congrFun (congrFun e10 16) 15).trans rfl
        refine qr_retI rfl rfl (by decide) (by decide) ?_
        exact ⟨_, _, _, _, rfl, qI_sw hI11 (x1 : Int).toNat 50 (Or.inl rfl), (qFr_up (by decide) (by decide) hF12), 1, rfl, by omega, Or.inr ⟨by omega, by omega, Or.inl ⟨by omega, fun N => by rcases hcr with h9 | h9; (exact h9.2.1 N); (exact False.elim (by have := h9.1; omega))⟩⟩, (by rcases (show qRt (σ 16 15) (α 81) _ (σ9 54 5) (σ9 54 6) (α5 56) from by rw [e10]; exact hcr) with h9 | h9; (exact qCW_s54 hF12 (by omega) hc15 (by omega) h9.2.2.1 h9.2.2.2.1 h9.2.2.2.2); (exact False.elim (by have := h9.1; omega)))⟩
      · skip
        refine qr_astore_n _ 48 rfl (by decide) rfl rfl ?_
        refine qr_aload_n 49 rfl rfl rfl ?_
        refine qr_get 52 rfl rfl rfl (by decide) rfl ?_
        refine qr_iload_n 53 rfl rfl rfl ?_
        refine qr_aload_n 54 rfl rfl rfl ?_
        refine qr_get 57 rfl rfl rfl (by decide) rfl ?_
        refine qr_aastore 58 rfl (by decide) (by decide) rfl rfl (by omega) (by decide) rfl ?_
        show qr_W (qe L xs vb) (d + 57) qx_e85 _ (58, _, [], qw σ9 α5 (va_up κ (x1 : Int).toNat (some 54)) 54, 0, 0)
        refine qr_aload_n 59 rfl rfl rfl ?_
        refine qr_aload_n 60 rfl rfl rfl ?_
        refine qr_put 63 rfl (by decide) rfl (Nat.le_of_ble_eq_true rfl) (Nat.le_of_ble_eq_true rfl) (Or.inl rfl) (qr_fitR (Or.inl ⟨_, rfl⟩) _) rfl ?_
        show qr_W (qe L xs vb) (d + 57) qx_e85 _ (63, _, [], qw σ9 α5 (va_up κ (x1 : Int).toNat (some 54)) 54, 0, 0)
        refine qr_iconst 64 rfl rfl ?_
        have hw18 : σ9 16 15 = 0 := (congrFun (congrFun e10 16) 15).trans rfl
        refine qr_retI rfl rfl (by decide) (by decide) ?_
        exact ⟨_, _, _, _, rfl, qI_sw hI11 (x1 : Int).toNat 54 (Or.inr (Or.inl rfl)), (qFr_up (by decide) (by decide) hF12), 1, rfl, by omega, Or.inr ⟨by omega, by omega, Or.inl ⟨by omega, fun N => by rcases hcr with h9 | h9; (exact h9.2.1 N); (exact False.elim (by have := h9.1; omega))⟩⟩, (by rcases (show qRt (σ 16 15) (α 81) _ (σ9 54 5) (σ9 54 6) (α5 56) from by rw [e10]; exact hcr) with h9 | h9; (exact qCW_s54 hF12 (by omega) hc15 (by omega) h9.2.2.1 h9.2.2.2.1 h9.2.2.2.2); (exact False.elim (by have := h9.1; omega)))⟩
      · skip
        refine qr_astore_n _ 48 rfl (by decide) rfl rfl ?_
        refine qr_aload_n 49 rfl rfl rfl ?_
        refine qr_get 52 rfl rfl rfl (by decide) rfl ?_
        refine qr_iload_n 53 rfl rfl rfl ?_
        refine qr_aload_n 54 rfl rfl rfl ?_
        refine qr_get 57 rfl rfl rfl (by decide) rfl ?_
        refine qr_aastore 58 rfl (by decide) (by decide) rfl rfl (by omega) (by decide) rfl ?_
        show qr_W (qe L xs vb) (d + 57) qx_e85 _ (58, _, [], qw σ9 α5 (va_up κ (x1 : Int).toNat (some 54)) 54, 0, 0)
        refine qr_aload_n 59 rfl rfl rfl ?_
        refine qr_aload_n 60 rfl rfl rfl ?_
        refine qr_put 63 rfl (by decide) rfl (Nat.le_of_ble_eq_true rfl) (Nat.le_of_ble_eq_true rfl) (Or.inl rfl) (qr_fitR (Or.inl ⟨_, rfl⟩) _) rfl ?_
        show qr_W (qe L xs vb) (d + 57) qx_e85 _ (63, _, [], qw σ9 α5 (va_up κ (x1 : Int).toNat (some 54)) 82, 0, 0)
        refine qr_iconst 64 rfl rfl ?_
        have hw19 : σ9 16 15 = 0 := (congrFun (congrFun e10 16) 15).trans rfl
        refine qr_retI rfl rfl (by decide) (by decide) ?_
        exact ⟨_, _, _, _, rfl, qI_sw hI11 (x1 : Int).toNat 82 (Or.inr (Or.inr rfl)), (qFr_up (by decide) (by decide) hF12), 1, rfl, by omega, Or.inr ⟨by omega, by omega, Or.inl ⟨by omega, fun N => by rcases hcr with h9 | h9; (exact h9.2.1 N); (exact False.elim (by have := h9.1; omega))⟩⟩, (by rcases (show qRt (σ 16 15) (α 81) _ (σ9 54 5) (σ9 54 6) (α5 56) from by rw [e10]; exact hcr) with h9 | h9; (exact qCW_s54 hF12 (by omega) hc15 (by omega) h9.2.2.1 h9.2.2.2.1 h9.2.2.2.2); (exact False.elim (by have := h9.1; omega)))⟩
    · skip
      refine qr_bipush 38 rfl (by decide) rfl ?_
      refine qr_iload_n 39 rfl rfl rfl ?_
      refine qr_isub 40 rfl rfl ?_
      have hw20 : σ9 16 15 = 0 := (congrFun (congrFun e10 16) 15).trans rfl
      refine qr_retI rfl rfl (by decide) (by decide) ?_
      exact ⟨_, _, _, _, rfl, hI11, (qFr_up (by decide) (by decide) hF12), ((-100) - v2), rfl, by omega, Or.inr ⟨by omega, by omega, Or.inr ⟨by omega, fun N => by rcases hcr with h9 | h9; (exact False.elim (by have := h9.1; omega)); (exact ⟨by have := (h9.2 N).1; omega, (h9.2 N).2⟩)⟩⟩, (qCW_f54 hF12 (by omega))⟩
  · skip
    refine qr_iload_n 5 rfl rfl rfl ?_
    refine qr_iconst 6 rfl rfl ?_
    refine qr_icmp_eq 11 9 rfl rfl rfl (by omega) (by omega) (fun h21 => ?_) (fun h21 => ?_)
    · skip
      refine qr_aload_n 12 rfl rfl rfl ?_
      refine qr_get 15 rfl rfl rfl (by decide) rfl ?_
      refine qr_aload_n 16 rfl rfl rfl ?_
      refine qr_get 19 rfl rfl rfl (by decide) rfl ?_
      refine qr_aload_n 20 rfl rfl rfl ?_
      refine qr_get 23 rfl rfl rfl (by decide) rfl ?_
      refine qr_callN 26 rfl rfl rfl (sf_86_54_81x (d := d + 0) hI (by omega) p0) ?_
      rintro _ _ ⟨σ24, α25, rfl, hI26, hG27, v22, rfl, hv22, hx23⟩
      have hF28 : qFr [(16, 15), (54, 3), (54, 4), (54, 5), (54, 6), (54, 7)] [55, 56] σ α σ24 α25 := qFr_t hF0 hG27 (by decide) (by decide)
      show qr_W (qe L xs vb) (d + 57) qx_e85 _ (26, _, [.int (qz v22)], qw σ24 α25 κ 54, 0, 0)
      have hcr : qRt (σ 16 15) (α 81) _ _ _ _ := hx23
      refine qr_istore_n _ 27 rfl (by decide) rfl rfl ?_
      refine qr_aload_n 28 rfl rfl rfl ?_
      refine qr_iconst 29 rfl rfl ?_
      refine qr_put 32 rfl (by decide) rfl (Nat.le_of_ble_eq_true rfl) (Nat.le_of_ble_eq_true rfl) (Or.inl rfl) (qr_fitI rfl _) rfl ?_
      refine qy_wS (qw_s σ24 16 15 0) rfl (fun σ29 e30 => ?_)
      have hI31 : qI σ29 α25 κ 54 := by rw [e30]; exact qI_s hI26 16 15 rfl (show 0 ≤ 0 ∧ 0 ≤ 120 by omega)
      have hF32 : qFr [(16, 15), (54, 3), (54, 4), (54, 5), (54, 6), (54, 7)] [55, 56] σ α σ29 α25 := by rw [e30]; exact qFr_s hF28 16 15 _ (by decide)
      refine qr_iload_n 33 rfl rfl rfl ?_
      refine qr_if_lt 41 36 rfl rfl rfl (by omega) (fun h33 => ?_) (fun h33 => ?_)
      · skip
        refine qr_aload_n 42 rfl rfl rfl ?_
        refine qr_get 45 rfl rfl rfl (by decide) rfl ?_
        refine qr_iload_n 46 rfl rfl rfl ?_
        obtain ⟨c34, hc35, hq36⟩ := qI_k hI31 (y := x1) (by omega)
        refine qr_aaload 47 rfl (by decide) rfl (by omega) (by decide) hc35 rfl ?_
        rcases hq36 with rfl | rfl | rfl
        · skip
          refine qr_astore_n _ 48 rfl (by decide) rfl rfl ?_
          refine qr_aload_n 49 rfl rfl rfl ?_
          refine qr_get 52 rfl rfl rfl (by decide) rfl ?_
          refine qr_iload_n 53 rfl rfl rfl ?_
          refine qr_aload_n 54 rfl rfl rfl ?_
          refine qr_get 57 rfl rfl rfl (by decide) rfl ?_
          refine qr_aastore 58 rfl (by decide) (by decide) rfl rfl (by omega) (by decide) rfl ?_
          show qr_W (qe L xs vb) (d + 57) qx_e85 _ (58, _, [], qw σ29 α25 (va_up κ (x1 : Int).toNat (some 54)) 54, 0, 0)
          refine qr_aload_n 59 rfl rfl rfl ?_
          refine qr_aload_n 60 rfl rfl rfl ?_
          refine qr_put 63 rfl (by decide) rfl (Nat.le_of_ble_eq_true rfl) (Nat.le_of_ble_eq_true rfl) (Or.inl rfl) (qr_fitR (Or.inl ⟨_, rfl⟩) _) rfl ?_
          show qr_W (qe L xs vb) (d + 57) qx_e85 _ (63, _, [], qw σ29 α25 (va_up κ (x1 : Int).toNat (some 54)) 50, 0, 0)
          refine qr_iconst 64 rfl rfl ?_
          have hw37 : σ29 16 15 = 0 := (congrFun (congrFun e30 16) 15).trans rfl
          refine qr_retI rfl rfl (by decide) (by decide) ?_
          exact ⟨_, _, _, _, rfl, qI_sw hI31 (x1 : Int).toNat 50 (Or.inl rfl), (qFr_up (by decide) (by decide) hF32), 1, rfl, by omega, Or.inr ⟨by omega, by omega, Or.inl ⟨by omega, fun N => by rcases hcr with h9 | h9; (exact h9.2.1 N); (exact False.elim (by have := h9.1; omega))⟩⟩, (by rcases (show qRt (σ 16 15) (α 81) _ (σ29 54 5) (σ29 54 6) (α25 56) from by rw [e30]; exact hcr) with h9 | h9; (exact qCW_s54 hF32 (by omega) hc35 (by omega) h9.2.2.1 h9.2.2.2.1 h9.2.2.2.2); (exact False.elim (by have := h9.1; omega)))⟩
        · skip
          refine qr_astore_n _ 48 rfl (by decide) rfl rfl ?_
          refine qr_aload_n 49 rfl rfl rfl ?_
          refine qr_get 52 rfl rfl rfl (by decide) rfl ?_
          refine qr_iload_n 53 rfl rfl rfl ?_
          refine qr_aload_n 54 rfl rfl rfl ?_
          refine qr_get 57 rfl rfl rfl (by decide) rfl ?_
          refine qr_aastore 58 rfl (by decide) (by decide) rfl rfl (by omega) (by decide) rfl ?_
          show qr_W (qe L xs vb) (d + 57) qx_e85 _ (58, _, [], qw σ29 α25 (va_up κ (x1 : Int).toNat (some 54)) 54, 0, 0)
          refine qr_aload_n 59 rfl rfl rfl ?_
          refine qr_aload_n 60 rfl rfl rfl ?_
          refine qr_put 63 rfl (by decide) rfl (Nat.le_of_ble_eq_true rfl) (Nat.le_of_ble_eq_true rfl) (Or.inl rfl) (qr_fitR (Or.inl ⟨_, rfl⟩) _) rfl ?_
          show qr_W (qe L xs vb) (d + 57) qx_e85 _ (63, _, [], qw σ29 α25 (va_up κ (x1 : Int).toNat (some 54)) 54, 0, 0)
          refine qr_iconst 64 rfl rfl ?_
          have hw38 : σ29 16 15 = 0 := (congrFun (congrFun e30 16) 15).trans rfl
          refine qr_retI rfl rfl (by decide) (by decide) ?_
          exact ⟨_, _, _, _, rfl, qI_sw hI31 (x1 : Int).toNat 54 (Or.inr (Or.inl rfl)), (qFr_up (by decide) (by decide) hF32), 1, rfl, by omega, Or.inr ⟨by omega, by omega, Or.inl ⟨by omega, fun N => by rcases hcr with h9 | h9; (exact h9.2.1 N); (exact False.elim (by have := h9.1; omega))⟩⟩, (by rcases (show qRt (σ 16 15) (α 81) _ (σ29 54 5) (σ29 54 6) (α25 56) from by rw [e30]; exact hcr) with h9 | h9; (exact qCW_s54 hF32 (by omega) hc35 (by omega) h9.2.2.1 h9.2.2.2.1 h9.2.2.2.2); (exact False.elim (by have := h9.1; omega)))⟩
        · skip
          refine qr_astore_n _ 48 rfl (by decide) rfl rfl ?_
          refine qr_aload_n 49 rfl rfl rfl ?_
          refine qr_get 52 rfl rfl rfl (by decide) rfl ?_
          refine qr_iload_n 53 rfl rfl rfl ?_
          refine qr_aload_n 54 rfl rfl rfl ?_
          refine qr_get 57 rfl rfl rfl (by decide) rfl ?_
          refine qr_aastore 58 rfl (by decide) (by decide) rfl rfl (by omega) (by decide) rfl ?_
          show qr_W (qe L xs vb) (d + 57) qx_e85 _ (58, _, [], qw σ29 α25 (va_up κ (x1 : Int).toNat (some 54)) 54, 0, 0)
          refine qr_aload_n 59 rfl rfl rfl ?_
          refine qr_aload_n 60 rfl rfl rfl ?_
          refine qr_put 63 rfl (by decide) rfl (Nat.le_of_ble_eq_true rfl) (Nat.le_of_ble_eq_true rfl) (Or.inl rfl) (qr_fitR (Or.inl ⟨_, rfl⟩) _) rfl ?_
          show qr_W (qe L xs vb) (d + 57) qx_e85 _ (63, _, [], qw σ29 α25 (va_up κ (x1 : Int).toNat (some 54)) 82, 0, 0)
          refine qr_iconst 64 rfl rfl ?_
          have hw39 : σ29 16 15 = 0 := (congrFun (congrFun e30 16) 15).trans rfl
          refine qr_retI rfl rfl (by decide) (by decide) ?_
          exact ⟨_, _, _, _, rfl, qI_sw hI31 (x1 : Int).toNat 82 (Or.inr (Or.inr rfl)), (qFr_up (by decide) (by decide) hF32), 1, rfl, by omega, Or.inr ⟨by omega, by omega, Or.inl ⟨by omega, fun N => by rcases hcr with h9 | h9; (exact h9.2.1 N); (exact False.elim (by have := h9.1; omega))⟩⟩, (by rcases (show qRt (σ 16 15) (α 81) _ (σ29 54 5) (σ29 54 6) (α25 56) from by rw [e30]; exact hcr) with h9 | h9; (exact qCW_s54 hF32 (by omega) hc35 (by omega) h9.2.2.1 h9.2.2.2.1 h9.2.2.2.2); (exact False.elim (by have := h9.1; omega)))⟩
      · skip
        refine qr_bipush 38 rfl (by decide) rfl ?_
        refine qr_iload_n 39 rfl rfl rfl ?_
        refine qr_isub 40 rfl rfl ?_
        have hw40 : σ29 16 15 = 0 := (congrFun (congrFun e30 16) 15).trans rfl
        refine qr_retI rfl rfl (by decide) (by decide) ?_
        exact ⟨_, _, _, _, rfl, hI31, (qFr_up (by decide) (by decide) hF32), ((-100) - v22), rfl, by omega, Or.inr ⟨by omega, by omega, Or.inr ⟨by omega, fun N => by rcases hcr with h9 | h9; (exact False.elim (by have := h9.1; omega)); (exact ⟨by have := (h9.2 N).1; omega, (h9.2 N).2⟩)⟩⟩, (qCW_f54 hF32 (by omega))⟩
    · skip
      refine qr_iconst 10 rfl rfl ?_
      have hw41 : σ 16 15 = (σ 16 15) := rfl
      refine qr_retI rfl rfl (by decide) (by decide) ?_
      exact ⟨_, _, _, _, rfl, hI, (qFr_up (by decide) (by decide) hF0), (-1), rfl, by omega, Or.inl ⟨by omega, by omega, by omega⟩, (qCW_id (by omega))⟩

set_option maxHeartbeats 4000000 in
set_option maxRecDepth 20000 in
/-- OneRoof.custom -/
theorem sf_85_16w82 {L : Nat} {xs : Nat → Int} {vb : Bool} {d : Nat} {σ α : Nat → Nat → Int} {κ : Nat → Option Nat} {x1 : Int} (hI : qI σ α κ 82) (r1 : (-2147483648) ≤ x1 ∧ x1 ≤ 2147483647) (p0 : ∀ j : Nat, (j : Int) < σ 16 15 → 0 ≤ α 81 j ∧ α 81 j ≤ 255) : qm_T (qe L xs vb) (d + 58) 85 [.ref 16, .int (qz x1)] (qw σ α κ 82) (fun r w' => ∃ σ' α' κ' ρ', w' = qw σ' α' κ' ρ' ∧ qI σ' α' κ' ρ' ∧ qFr [(16, 15), (50, 3), (50, 4), (50, 5), (50, 6), (50, 7), (54, 3), (54, 4), (54, 5), (54, 6), (54, 7), (82, 3), (82, 4), (82, 5), (82, 6), (82, 7)] [51, 52, 55, 56, 83, 84] σ α σ' α' ∧ ∃ v : Int, r = some (.int (qz v)) ∧ (-2147483648 ≤ v ∧ v ≤ 2147483647) ∧ ((v = -1 ∧ ¬ (x1 = 0 ∨ x1 = 1) ∧ σ' 16 15 = σ 16 15) ∨ ((x1 = 0 ∨ x1 = 1) ∧ σ' 16 15 = 0 ∧ ((v = 1 ∧ ∀ N, (qtx_W (α 81) (σ 16 15) N).2.2 = 0) ∨ (v ≤ -100 ∧ ∀ N, v = -100 - (qtx_W (α 81) (σ 16 15) N).2.1 ∧ (qtx_W (α 81) (σ 16 15) N).2.2 = 1)))) ∧ qCW σ α κ 82 σ' α' κ' ρ' x1 v (fun N => (qtx_W (α 81) (σ 16 15) N).1)) := by
  refine qr_start (d := d + 57) qv_e85 (Nat.le_of_ble_eq_true rfl) ?_
  show qr_W (qe L xs vb) (d + 57) qx_e85 _ (0, [(0, .ref 16), (1, .int (qz x1))], [], _, 0, 0)
  have hF0 := qFr_rf [(16, 15), (82, 3), (82, 4), (82, 5), (82, 6), (82, 7)] [83, 84] σ α
  have hz16_15 : 0 ≤ σ 16 15 ∧ σ 16 15 ≤ 120 := hI.1 16 15
  refine qr_iload_n 1 rfl rfl rfl ?_
  refine qr_if_eq 11 4 rfl rfl rfl (by omega) (fun h1 => ?_) (fun h1 => ?_)
  · skip
    refine qr_aload_n 12 rfl rfl rfl ?_
    refine qr_get 15 rfl rfl rfl (by decide) rfl ?_
    refine qr_aload_n 16 rfl rfl rfl ?_
    refine qr_get 19 rfl rfl rfl (by decide) rfl ?_
    refine qr_aload_n 20 rfl rfl rfl ?_
    refine qr_get 23 rfl rfl rfl (by decide) rfl ?_
    refine qr_callN 26 rfl rfl rfl (sf_86_82_81x (d := d + 0) hI (by omega) p0) ?_
    rintro _ _ ⟨σ4, α5, rfl, hI6, hG7, v2, rfl, hv2, hx3⟩
    have hF8 : qFr [(16, 15), (82, 3), (82, 4), (82, 5), (82, 6), (82, 7)] [83, 84] σ α σ4 α5 := qFr_t hF0 hG7 (by decide) (by decide)
    show qr_W (qe L xs vb) (d + 57) qx_e85 _ (26, _, [.int (qz v2)], qw σ4 α5 κ 82, 0, 0)
    have hcr : qRt (σ 16 15) (α 81) _ _ _ _ := hx3
    refine qr_istore_n _ 27 rfl (by decide) rfl rfl ?_
    refine qr_aload_n 28 rfl rfl rfl ?_
    refine qr_iconst 29 rfl rfl ?_
    refine qr_put 32 rfl (by decide) rfl (Nat.le_of_ble_eq_true rfl) (Nat.le_of_ble_eq_true rfl) (Or.inl rfl) (qr_fitI rfl _) rfl ?_
    refine qy_wS (qw_s σ4 16 15 0) rfl (fun σ9 e10 => ?_)
    have hI11 : qI σ9 α5 κ 82 := by rw [e10]; exact qI_s hI6 16 15 rfl (show 0 ≤ 0 ∧ 0 ≤ 120 by omega)
    have hF12 : qFr [(16, 15), (82, 3), (82, 4), (82, 5), (82, 6), (82, 7)] [83, 84] σ α σ9 α5 := by rw [e10]; exact qFr_s hF8 16 15 _ (by decide)
    refine qr_iload_n 33 rfl rfl rfl ?_
    refine qr_if_lt 41 36 rfl rfl rfl (by omega) (fun h13 => ?_) (fun h13 => ?_)
    · skip
      refine qr_aload_n 42 rfl rfl rfl ?_
      refine qr_get 45 rfl rfl rfl (by decide) rfl ?_
      refine qr_iload_n 46 rfl rfl rfl ?_
      obtain ⟨c14, hc15, hq16⟩ := qI_k hI11 (y := x1) (by omega)
      refine qr_aaload 47 rfl (by decide) rfl (by omega) (by decide) hc15 rfl ?_
      rcases hq16 with rfl | rfl | rfl
      · skip
        refine qr_astore_n _ 48 rfl (by decide) rfl rfl ?_
        refine qr_aload_n 49 rfl rfl rfl ?_
        refine qr_get 52 rfl rfl rfl (by decide) rfl ?_
        refine qr_iload_n 53 rfl rfl rfl ?_
        refine qr_aload_n 54 rfl rfl rfl ?_
        refine qr_get 57 rfl rfl rfl (by decide) rfl ?_
        refine qr_aastore 58 rfl (by decide) (by decide) rfl rfl (by omega) (by decide) rfl ?_
        show qr_W (qe L xs vb) (d + 57) qx_e85 _ (58, _, [], qw σ9 α5 (va_up κ (x1 : Int).toNat (some 82)) 82, 0, 0)
        refine qr_aload_n 59 rfl rfl rfl ?_
        refine qr_aload_n 60 rfl rfl rfl ?_
        refine qr_put 63 rfl (by decide) rfl (Nat.le_of_ble_eq_true rfl) (Nat.le_of_ble_eq_true rfl) (Or.inl rfl) (qr_fitR (Or.inl ⟨_, rfl⟩) _) rfl ?_
        show qr_W (qe L xs vb) (d + 57) qx_e85 _ (63, _, [], qw σ9 α5 (va_up κ (x1 : Int).toNat (some 82)) 50, 0, 0)
        refine qr_iconst 64 rfl rfl ?_
        have hw17 : σ9 16 15 = 0 := (congrFun (congrFun e10 16) 15).trans rfl
        refine qr_retI rfl rfl (by decide) (by decide) ?_
        exact ⟨_, _, _, _, rfl, qI_sw hI11 (x1 : Int).toNat 50 (Or.inl rfl), (qFr_up (by decide) (by decide) hF12), 1, rfl, by omega, Or.inr ⟨by omega, by omega, Or.inl ⟨by omega, fun N => by rcases hcr with h9 | h9; (exact h9.2.1 N); (exact False.elim (by have := h9.1; omega))⟩⟩, (by rcases (show qRt (σ 16 15) (α 81) _ (σ9 82 5) (σ9 82 6) (α5 84) from by rw [e10]; exact hcr) with h9 | h9; (exact qCW_s82 hF12 (by omega) hc15 (by omega) h9.2.2.1 h9.2.2.2.1 h9.2.2.2.2); (exact False.elim (by have := h9.1; omega)))⟩
      · skip
        refine qr_astore_n _ 48 rfl (by decide) rfl rfl ?_
        refine qr_aload_n 49 rfl rfl rfl ?_
        refine qr_get 52 rfl rfl rfl (by decide) rfl ?_
        refine qr_iload_n 53 rfl rfl rfl ?_
        refine qr_aload_n 54 rfl rfl rfl ?_
        refine qr_get 57 rfl rfl rfl (by decide) rfl ?_
        refine qr_aastore 58 rfl (by decide) (by decide) rfl rfl (by omega) (by decide) rfl ?_
        show qr_W (qe L xs vb) (d + 57) qx_e85 _ (58, _, [], qw σ9 α5 (va_up κ (x1 : Int).toNat (some 82)) 82, 0, 0)
        refine qr_aload_n 59 rfl rfl rfl ?_
        refine qr_aload_n 60 rfl rfl rfl ?_
        refine qr_put 63 rfl (by decide) rfl (Nat.le_of_ble_eq_true rfl) (Nat.le_of_ble_eq_true rfl) (Or.inl rfl) (qr_fitR (Or.inl ⟨_, rfl⟩) _) rfl ?_
        show qr_W (qe L xs vb) (d + 57) qx_e85 _ (63, _, [], qw σ9 α5 (va_up κ (x1 : Int).toNat (some 82)) 54, 0, 0)
        refine qr_iconst 64 rfl rfl ?_
        have hw18 : σ9 16 15 = 0 := (congrFun (congrFun e10 16) 15).trans rfl
        refine qr_retI rfl rfl (by decide) (by decide) ?_
        exact ⟨_, _, _, _, rfl, qI_sw hI11 (x1 : Int).toNat 54 (Or.inr (Or.inl rfl)), (qFr_up (by decide) (by decide) hF12), 1, rfl, by omega, Or.inr ⟨by omega, by omega, Or.inl ⟨by omega, fun N => by rcases hcr with h9 | h9; (exact h9.2.1 N); (exact False.elim (by have := h9.1; omega))⟩⟩, (by rcases (show qRt (σ 16 15) (α 81) _ (σ9 82 5) (σ9 82 6) (α5 84) from by rw [e10]; exact hcr) with h9 | h9; (exact qCW_s82 hF12 (by omega) hc15 (by omega) h9.2.2.1 h9.2.2.2.1 h9.2.2.2.2); (exact False.elim (by have := h9.1; omega)))⟩
      · skip
        refine qr_astore_n _ 48 rfl (by decide) rfl rfl ?_
        refine qr_aload_n 49 rfl rfl rfl ?_
        refine qr_get 52 rfl rfl rfl (by decide) rfl ?_
        refine qr_iload_n 53 rfl rfl rfl ?_
        refine qr_aload_n 54 rfl rfl rfl ?_
        refine qr_get 57 rfl rfl rfl (by decide) rfl ?_
        refine qr_aastore 58 rfl (by decide) (by decide) rfl rfl (by omega) (by decide) rfl ?_
        show qr_W (qe L xs vb) (d + 57) qx_e85 _ (58, _, [], qw σ9 α5 (va_up κ (x1 : Int).toNat (some 82)) 82, 0, 0)
        refine qr_aload_n 59 rfl rfl rfl ?_
        refine qr_aload_n 60 rfl rfl rfl ?_
        refine qr_put 63 rfl (by decide) rfl (Nat.le_of_ble_eq_true rfl) (Nat.le_of_ble_eq_true rfl) (Or.inl rfl) (qr_fitR (Or.inl ⟨_, rfl⟩) _) rfl ?_
        show qr_W (qe L xs vb) (d + 57) qx_e85 _ (63, _, [], qw σ9 α5 (va_up κ (x1 : Int).toNat (some 82)) 82, 0, 0)
        refine qr_iconst 64 rfl rfl ?_
        have hw19 : σ9 16 15 = 0 := (congrFun (congrFun e10 16) 15).trans rfl
        refine qr_retI rfl rfl (by decide) (by decide) ?_
        exact ⟨_, _, _, _, rfl, qI_sw hI11 (x1 : Int).toNat 82 (Or.inr (Or.inr rfl)), (qFr_up (by decide) (by decide) hF12), 1, rfl, by omega, Or.inr ⟨by omega, by omega, Or.inl ⟨by omega, fun N => by rcases hcr with h9 | h9; (exact h9.2.1 N); (exact False.elim (by have := h9.1; omega))⟩⟩, (by rcases (show qRt (σ 16 15) (α 81) _ (σ9 82 5) (σ9 82 6) (α5 84) from by rw [e10]; exact hcr) with h9 | h9; (exact qCW_s82 hF12 (by omega) hc15 (by omega) h9.2.2.1 h9.2.2.2.1 h9.2.2.2.2); (exact False.elim (by have := h9.1; omega)))⟩
    · skip
      refine qr_bipush 38 rfl (by decide) rfl ?_
      refine qr_iload_n 39 rfl rfl rfl ?_
      refine qr_isub 40 rfl rfl ?_
      have hw20 : σ9 16 15 = 0 := (congrFun (congrFun e10 16) 15).trans rfl
      refine qr_retI rfl rfl (by decide) (by decide) ?_
      exact ⟨_, _, _, _, rfl, hI11, (qFr_up (by decide) (by decide) hF12), ((-100) - v2), rfl, by omega, Or.inr ⟨by omega, by omega, Or.inr ⟨by omega, fun N => by rcases hcr with h9 | h9; (exact False.elim (by have := h9.1; omega)); (exact ⟨by have := (h9.2 N).1; omega, (h9.2 N).2⟩)⟩⟩, (qCW_f82 hF12 (by omega))⟩
  · skip
    refine qr_iload_n 5 rfl rfl rfl ?_
    refine qr_iconst 6 rfl rfl ?_
    refine qr_icmp_eq 11 9 rfl rfl rfl (by omega) (by omega) (fun h21 => ?_) (fun h21 => ?_)
    · skip
      refine qr_aload_n 12 rfl rfl rfl ?_
      refine qr_get 15 rfl rfl rfl (by decide) rfl ?_
      refine qr_aload_n 16 rfl rfl rfl ?_
      refine qr_get 19 rfl rfl rfl (by decide) rfl ?_
      refine qr_aload_n 20 rfl rfl rfl ?_
      refine qr_get 23 rfl rfl rfl (by decide) rfl ?_
      refine qr_callN 26 rfl rfl rfl (sf_86_82_81x (d := d + 0) hI (by omega) p0) ?_
      rintro _ _ ⟨σ24, α25, rfl, hI26, hG27, v22, rfl, hv22, hx23⟩
      have hF28 : qFr [(16, 15), (82, 3), (82, 4), (82, 5), (82, 6), (82, 7)] [83, 84] σ α σ24 α25 := qFr_t hF0 hG27 (by decide) (by decide)
      show qr_W (qe L xs vb) (d + 57) qx_e85 _ (26, _, [.int (qz v22)], qw σ24 α25 κ 82, 0, 0)
      have hcr : qRt (σ 16 15) (α 81) _ _ _ _ := hx23
      refine qr_istore_n _ 27 rfl (by decide) rfl rfl ?_
      refine qr_aload_n 28 rfl rfl rfl ?_
      refine qr_iconst 29 rfl rfl ?_
      refine qr_put 32 rfl (by decide) rfl (Nat.le_of_ble_eq_true rfl) (Nat.le_of_ble_eq_true rfl) (Or.inl rfl) (qr_fitI rfl _) rfl ?_
      refine qy_wS (qw_s σ24 16 15 0) rfl (fun σ29 e30 => ?_)
      have hI31 : qI σ29 α25 κ 82 := by rw [e30]; exact qI_s hI26 16 15 rfl (show 0 ≤ 0 ∧ 0 ≤ 120 by omega)
      have hF32 : qFr [(16, 15), (82, 3), (82, 4), (82, 5), (82, 6), (82, 7)] [83, 84] σ α σ29 α25 := by rw [e30]; exact qFr_s hF28 16 15 _ (by decide)
      refine qr_iload_n 33 rfl rfl rfl ?_
      refine qr_if_lt 41 36 rfl rfl rfl (by omega) (fun h33 => ?_) (fun h33 => ?_)
      · skip
        refine qr_aload_n 42 rfl rfl rfl ?_
        refine qr_get 45 rfl rfl rfl (by decide) rfl ?_
        refine qr_iload_n 46 rfl rfl rfl ?_
        obtain ⟨c34, hc35, hq36⟩ := qI_k hI31 (y := x1) (by omega)
        refine qr_aaload 47 rfl (by decide) rfl (by omega) (by decide) hc35 rfl ?_
        rcases hq36 with rfl | rfl | rfl
        · skip
          refine qr_astore_n _ 48 rfl (by decide) rfl rfl ?_
          refine qr_aload_n 49 rfl rfl rfl ?_
          refine qr_get 52 rfl rfl rfl (by decide) rfl ?_
          refine qr_iload_n 53 rfl rfl rfl ?_
          refine qr_aload_n 54 rfl rfl rfl ?_
          refine qr_get 57 rfl rfl rfl (by decide) rfl ?_
          refine qr_aastore 58 rfl (by decide) (by decide) rfl rfl (by omega) (by decide) rfl ?_
          show qr_W (qe L xs vb) (d + 57) qx_e85 _ (58, _, [], qw σ29 α25 (va_up κ (x1 : Int).toNat (some 82)) 82, 0, 0)
          refine qr_aload_n 59 rfl rfl rfl ?_
          refine qr_aload_n 60 rfl rfl rfl ?_
          refine qr_put 63 rfl (by decide) rfl (Nat.le_of_ble_eq_true rfl) (Nat.le_of_ble_eq_true rfl) (Or.inl rfl) (qr_fitR (Or.inl ⟨_, rfl⟩) _) rfl ?_
          show qr_W (qe L xs vb) (d + 57) qx_e85 _ (63, _, [], qw σ29 α25 (va_up κ (x1 : Int).toNat (some 82)) 50, 0, 0)
          refine qr_iconst 64 rfl rfl ?_
          have hw37 : σ29 16 15 = 0 := (congrFun (congrFun e30 16) 15).trans rfl
          refine qr_retI rfl rfl (by decide) (by decide) ?_
          exact ⟨_, _, _, _, rfl, qI_sw hI31 (x1 : Int).toNat 50 (Or.inl rfl), (qFr_up (by decide) (by decide) hF32), 1, rfl, by omega, Or.inr ⟨by omega, by omega, Or.inl ⟨by omega, fun N => by rcases hcr with h9 | h9; (exact h9.2.1 N); (exact False.elim (by have := h9.1; omega))⟩⟩, (by rcases (show qRt (σ 16 15) (α 81) _ (σ29 82 5) (σ29 82 6) (α25 84) from by rw [e30]; exact hcr) with h9 | h9; (exact qCW_s82 hF32 (by omega) hc35 (by omega) h9.2.2.1 h9.2.2.2.1 h9.2.2.2.2); (exact False.elim (by have := h9.1; omega)))⟩
        · skip
          refine qr_astore_n _ 48 rfl (by decide) rfl rfl ?_
          refine qr_aload_n 49 rfl rfl rfl ?_
          refine qr_get 52 rfl rfl rfl (by decide) rfl ?_
          refine qr_iload_n 53 rfl rfl rfl ?_
          refine qr_aload_n 54 rfl rfl rfl ?_
          refine qr_get 57 rfl rfl rfl (by decide) rfl ?_
          refine qr_aastore 58 rfl (by decide) (by decide) rfl rfl (by omega) (by decide) rfl ?_
          show qr_W (qe L xs vb) (d + 57) qx_e85 _ (58, _, [], qw σ29 α25 (va_up κ (x1 : Int).toNat (some 82)) 82, 0, 0)
          refine qr_aload_n 59 rfl rfl rfl ?_
          refine qr_aload_n 60 rfl rfl rfl ?_
          refine qr_put 63 rfl (by decide) rfl (Nat.le_of_ble_eq_true rfl) (Nat.le_of_ble_eq_true rfl) (Or.inl rfl) (qr_fitR (Or.inl ⟨_, rfl⟩) _) rfl ?_
          show qr_W (qe L xs vb) (d + 57) qx_e85 _ (63, _, [], qw σ29 α25 (va_up κ (x1 : Int).toNat (some 82)) 54, 0, 0)
          refine qr_iconst 64 rfl rfl ?_
          have hw38 : σ29 16 15 = 0 := (congrFun (congrFun e30 16) 15).trans rfl
          refine qr_retI rfl rfl (by decide) (by decide) ?_
          exact ⟨_, _, _, _, rfl, qI_sw hI31 (x1 : Int).toNat 54 (Or.inr (Or.inl rfl)), (qFr_up (by decide) (by decide) hF32), 1, rfl, by omega, Or.inr ⟨by omega, by omega, Or.inl ⟨by omega, fun N => by rcases hcr with h9 | h9; (exact h9.2.1 N); (exact False.elim (by have := h9.1; omega))⟩⟩, (by rcases (show qRt (σ 16 15) (α 81) _ (σ29 82 5) (σ29 82 6) (α25 84) from by rw [e30]; exact hcr) with h9 | h9; (exact qCW_s82 hF32 (by omega) hc35 (by omega) h9.2.2.1 h9.2.2.2.1 h9.2.2.2.2); (exact False.elim (by have := h9.1; omega)))⟩
        · skip
          refine qr_astore_n _ 48 rfl (by decide) rfl rfl ?_
          refine qr_aload_n 49 rfl rfl rfl ?_
          refine qr_get 52 rfl rfl rfl (by decide) rfl ?_
          refine qr_iload_n 53 rfl rfl rfl ?_
          refine qr_aload_n 54 rfl rfl rfl ?_
          refine qr_get 57 rfl rfl rfl (by decide) rfl ?_
          refine qr_aastore 58 rfl (by decide) (by decide) rfl rfl (by omega) (by decide) rfl ?_
          show qr_W (qe L xs vb) (d + 57) qx_e85 _ (58, _, [], qw σ29 α25 (va_up κ (x1 : Int).toNat (some 82)) 82, 0, 0)
          refine qr_aload_n 59 rfl rfl rfl ?_
          refine qr_aload_n 60 rfl rfl rfl ?_
          refine qr_put 63 rfl (by decide) rfl (Nat.le_of_ble_eq_true rfl) (Nat.le_of_ble_eq_true rfl) (Or.inl rfl) (qr_fitR (Or.inl ⟨_, rfl⟩) _) rfl ?_
          show qr_W (qe L xs vb) (d + 57) qx_e85 _ (63, _, [], qw σ29 α25 (va_up κ (x1 : Int).toNat (some 82)) 82, 0, 0)
          refine qr_iconst 64 rfl rfl ?_
          have hw39 : σ29 16 15 = 0 := (congrFun (congrFun e30 16) 15).trans rfl
          refine qr_retI rfl rfl (by decide) (by decide) ?_
          exact ⟨_, _, _, _, rfl, qI_sw hI31 (x1 : Int).toNat 82 (Or.inr (Or.inr rfl)), (qFr_up (by decide) (by decide) hF32), 1, rfl, by omega, Or.inr ⟨by omega, by omega, Or.inl ⟨by omega, fun N => by rcases hcr with h9 | h9; (exact h9.2.1 N); (exact False.elim (by have := h9.1; omega))⟩⟩, (by rcases (show qRt (σ 16 15) (α 81) _ (σ29 82 5) (σ29 82 6) (α25 84) from by rw [e30]; exact hcr) with h9 | h9; (exact qCW_s82 hF32 (by omega) hc35 (by omega) h9.2.2.1 h9.2.2.2.1 h9.2.2.2.2); (exact False.elim (by have := h9.1; omega)))⟩
      · skip
        refine qr_bipush 38 rfl (by decide) rfl ?_
        refine qr_iload_n 39 rfl rfl rfl ?_
        refine qr_isub 40 rfl rfl ?_
        have hw40 : σ29 16 15 = 0 := (congrFun (congrFun e30 16) 15).trans rfl
        refine qr_retI rfl rfl (by decide) (by decide) ?_
        exact ⟨_, _, _, _, rfl, hI31, (qFr_up (by decide) (by decide) hF32), ((-100) - v22), rfl, by omega, Or.inr ⟨by omega, by omega, Or.inr ⟨by omega, fun N => by rcases hcr with h9 | h9; (exact False.elim (by have := h9.1; omega)); (exact ⟨by have := (h9.2 N).1; omega, (h9.2 N).2⟩)⟩⟩, (qCW_f82 hF32 (by omega))⟩
    · skip
      refine qr_iconst 10 rfl rfl ?_
      have hw41 : σ 16 15 = (σ 16 15) := rfl
      refine qr_retI rfl rfl (by decide) (by decide) ?_
      exact ⟨_, _, _, _, rfl, hI, (qFr_up (by decide) (by decide) hF0), (-1), rfl, by omega, Or.inl ⟨by omega, by omega, by omega⟩, (qCW_id (by omega))⟩

set_option maxHeartbeats 4000000 in
theorem sf_85_16w {L : Nat} {xs : Nat → Int} {vb : Bool} {d : Nat} {σ α : Nat → Nat → Int} {κ : Nat → Option Nat} {ρ : Nat} {x1 : Int} (hI : qI σ α κ ρ) (r1 : (-2147483648) ≤ x1 ∧ x1 ≤ 2147483647) (p0 : ∀ j : Nat, (j : Int) < σ 16 15 → 0 ≤ α 81 j ∧ α 81 j ≤ 255) : qm_T (qe L xs vb) (d + 58) 85 [.ref 16, .int (qz x1)] (qw σ α κ ρ) (fun r w' => ∃ σ' α' κ' ρ', w' = qw σ' α' κ' ρ' ∧ qI σ' α' κ' ρ' ∧ qFr [(16, 15), (50, 3), (50, 4), (50, 5), (50, 6), (50, 7), (54, 3), (54, 4), (54, 5), (54, 6), (54, 7), (82, 3), (82, 4), (82, 5), (82, 6), (82, 7)] [51, 52, 55, 56, 83, 84] σ α σ' α' ∧ ∃ v : Int, r = some (.int (qz v)) ∧ (-2147483648 ≤ v ∧ v ≤ 2147483647) ∧ ((v = -1 ∧ ¬ (x1 = 0 ∨ x1 = 1) ∧ σ' 16 15 = σ 16 15) ∨ ((x1 = 0 ∨ x1 = 1) ∧ σ' 16 15 = 0 ∧ ((v = 1 ∧ ∀ N, (qtx_W (α 81) (σ 16 15) N).2.2 = 0) ∨ (v ≤ -100 ∧ ∀ N, v = -100 - (qtx_W (α 81) (σ 16 15) N).2.1 ∧ (qtx_W (α 81) (σ 16 15) N).2.2 = 1)))) ∧ qCW σ α κ ρ σ' α' κ' ρ' x1 v (fun N => (qtx_W (α 81) (σ 16 15) N).1)) := by
  have h := hI.2.2.1.2.2
  unfold qI_c at h
  rcases h with rfl | rfl | rfl
  · exact sf_85_16w50 hI r1 p0
  · exact sf_85_16w54 hI r1 p0
  · exact sf_85_16w82 hI r1 p0

set_option maxHeartbeats 4000000 in
set_option maxRecDepth 20000 in
/-- OneRoofModel.custom -/
theorem sf_212_86w {L : Nat} {xs : Nat → Int} {vb : Bool} {d : Nat} {σ α : Nat → Nat → Int} {κ : Nat → Option Nat} {ρ : Nat} {x1 : Int} (hI : qI σ α κ ρ) (r1 : (-2147483648) ≤ x1 ∧ x1 ≤ 2147483647) : qm_T (qe L xs vb) (d + 46) 212 [.ref 86, .int (qz x1)] (qw σ α κ ρ) (fun r w' => ∃ σ' α', w' = qw σ' α' κ ρ ∧ qI σ' α' κ ρ ∧ qFr [(86, 32), (86, 35), (86, 36), (86, 37), (86, 38), (86, 39)] [107, 108] σ α σ' α' ∧ ∃ v : Int, r = some (.int (qz v)) ∧ ((-2147483648) ≤ v ∧ v ≤ 2147483647) ∧ ((v = -1 ∧ ¬ (x1 = 0 ∨ x1 = 1) ∧ σ' 86 32 = σ 86 32 ∧ α' 107 = α 107 ∧ α' 108 = α 108) ∨ ((x1 = 0 ∨ x1 = 1) ∧ σ' 86 32 = 0 ∧ ((v = 1 ∧ (qtx_W (α 106) (σ 86 32) (α 109)).2.2 = 0 ∧ α' 107 = qtp (α 107) (α 106) (120 * x1) (σ 86 32 : Int).toNat ∧ α' 108 = qzu (α 108) (x1 : Int).toNat (σ 86 32)) ∨ (v = -100 - (qtx_W (α 106) (σ 86 32) (α 109)).2.1 ∧ (qtx_W (α 106) (σ 86 32) (α 109)).2.2 = 1 ∧ α' 107 = α 107 ∧ α' 108 = α 108))))) := by
  refine qr_start (d := d + 45) qv_e212 (Nat.le_of_ble_eq_true rfl) ?_
  show qr_W (qe L xs vb) (d + 45) qx_e212 _ (0, [(0, .ref 86), (1, .int (qz x1))], [], _, 0, 0)
  have hF0 := qFr_rf [(86, 32), (86, 35), (86, 36), (86, 37), (86, 38), (86, 39)] [107, 108] σ α
  have hz86_32 : 0 ≤ σ 86 32 ∧ σ 86 32 ≤ 120 := hI.1 86 32
  refine qr_iload_n 1 rfl rfl rfl ?_
  refine qr_i2l 2 rfl (by omega) rfl ?_
  refine qr_lconst 3 rfl rfl ?_
  refine qy_vl 0 rfl ?_
  refine qr_lconst 4 rfl rfl ?_
  refine qy_vl 1 rfl ?_
  refine qr_callN 7 rfl rfl rfl (sf_176 (d := d + 44) hI (by omega) (by omega) (by omega)) ?_
  rintro _ _ ⟨rfl, v1, rfl, hv1, hp2⟩
  show qr_W (qe L xs vb) (d + 45) qx_e212 _ (7, _, [.int (qz v1)], qw σ α κ ρ, 0, 0)
  refine qr_if_ne 12 10 rfl rfl rfl (by omega) (fun h3 => ?_) (fun h3 => ?_)
  · skip
    refine qr_aload_n 13 rfl rfl rfl ?_
    refine qr_iconst 14 rfl rfl ?_
    refine qr_aload_n 15 rfl rfl rfl ?_
    refine qr_get 18 rfl rfl rfl (by decide) rfl ?_
    refine qr_callN 21 rfl rfl rfl (sf_213_86x (d := d + 0) hI (by omega) (by omega)) ?_
    rintro _ _ ⟨σ7, rfl, hI8, hG9, v4, rfl, hv4, hp5, hx6⟩
    have hF10 : qFr [(86, 32), (86, 35), (86, 36), (86, 37), (86, 38), (86, 39)] [107, 108] σ α σ7 α := qFr_t hF0 hG9 (by decide) (by decide)
    have hs11 : (-1) ≤ σ7 86 38 ∧ σ7 86 38 ≤ 120 := hI8.1 86 38
    show qr_W (qe L xs vb) (d + 45) qx_e212 _ (21, _, [.int (qz v4)], qw σ7 α κ ρ, 0, 0)
    refine qr_istore_n _ 22 rfl (by decide) rfl rfl ?_
    refine qr_aload_n 23 rfl rfl rfl ?_
    refine qr_get 26 rfl rfl rfl (by decide) rfl ?_
    refine qy_v (σ 86 32) ((hG9.1 86 32 (by decide)).trans rfl) ?_
    refine qr_istore_n _ 27 rfl (by decide) rfl rfl ?_
    refine qr_aload_n 28 rfl rfl rfl ?_
    refine qr_iconst 29 rfl rfl ?_
    refine qr_put 32 rfl (by decide) rfl (Nat.le_of_ble_eq_true rfl) (Nat.le_of_ble_eq_true rfl) (Or.inl rfl) (qr_fitI rfl _) rfl ?_
    refine qy_wS (qw_s σ7 86 32 0) rfl (fun σ12 e13 => ?_)
    have hI14 : qI σ12 α κ ρ := by rw [e13]; exact qI_s hI8 86 32 rfl (show 0 ≤ 0 ∧ 0 ≤ 120 by omega)
    have hF15 : qFr [(86, 32), (86, 35), (86, 36), (86, 37), (86, 38), (86, 39)] [107, 108] σ α σ12 α := by rw [e13]; exact qFr_s hF10 86 32 _ (by decide)
    refine qr_aload_n 33 rfl rfl rfl ?_
    refine qr_get 36 rfl rfl rfl (by decide) rfl ?_
    refine qy_v (σ7 86 38) ((congrFun (congrFun e13 86) 38).trans rfl) ?_
    refine qr_if_lt 47 39 rfl rfl rfl (by omega) (fun h16 => ?_) (fun h16 => ?_)
    · skip
      refine qr_iconst 48 rfl rfl ?_
      refine qr_istore _ 50 rfl (by decide) rfl rfl ?_
      have hL527 : ∀ (n : Nat) (ls : qm_L) (u517 : Int) (α519 : Nat → Nat → Int), 120 - u517 < (n : Int) → qm_get ls 0 = some (.ref 86) → qm_get ls 1 = some (.int (qz x1)) → qm_get ls 3 = some (.int (qz (σ 86 32))) → qm_get ls 4 = some (.int (qz u517)) → (0 ≤ u517 ∧ u517 ≤ 120) → qI σ12 α519 κ ρ → qFr [(86, 32), (86, 35), (86, 36), (86, 37), (86, 38), (86, 39)] [107, 108] σ α σ12 α519 → α519 106 = (α 106) → α519 108 = (α 108) → α519 107 = (qtp (α 107) (α 106) (120 * x1) (u517 : Int).toNat) → u517 ≤ σ 86 32 → qr_W (qe L xs vb) (d + 45) qx_e212 (fun r w' => ∃ σ' α', w' = qw σ' α' κ ρ ∧ qI σ' α' κ ρ ∧ qFr [(86, 32), (86, 35), (86, 36), (86, 37), (86, 38), (86, 39)] [107, 108] σ α σ' α' ∧ ∃ v : Int, r = some (.int (qz v)) ∧ ((-2147483648) ≤ v ∧ v ≤ 2147483647) ∧ ((v = -1 ∧ ¬ (x1 = 0 ∨ x1 = 1) ∧ σ' 86 32 = σ 86 32 ∧ α' 107 = α 107 ∧ α' 108 = α 108) ∨ ((x1 = 0 ∨ x1 = 1) ∧ σ' 86 32 = 0 ∧ ((v = 1 ∧ (qtx_W (α 106) (σ 86 32) (α 109)).2.2 = 0 ∧ α' 107 = qtp (α 107) (α 106) (120 * x1) (σ 86 32 : Int).toNat ∧ α' 108 = qzu (α 108) (x1 : Int).toNat (σ 86 32)) ∨ (v = -100 - (qtx_W (α 106) (σ 86 32) (α 109)).2.1 ∧ (qtx_W (α 106) (σ 86 32) (α 109)).2.2 = 1 ∧ α' 107 = α 107 ∧ α' 108 = α 108))))) (50, ls, [], qw σ12 α519 κ ρ, 0, 0) := by
        intro n
        induction n with
        | zero => intro ls u517 α519 hm g513 g514 g515 g516 hf524 hI520 hF521 hk522 hk523 hx525 hx526; exact False.elim (by omega)
        | succ n ih528 =>
          intro ls u517 α519 hm g513 g514 g515 g516 hf524 hI520 hF521 hk522 hk523 hx525 hx526
          refine qr_iload 52 rfl g516 rfl ?_
          refine qr_iload_n 53 rfl g515 rfl ?_
          refine qr_icmp_ge 81 56 rfl rfl rfl (by omega) (by omega) (fun h529 => ?_) (fun h529 => ?_)
          · skip
            refine qr_aload_n 82 rfl g513 rfl ?_
            refine qr_get 85 rfl rfl rfl (by decide) rfl ?_
            refine qr_iload_n 86 rfl g514 rfl ?_
            refine qr_iload_n 87 rfl g515 rfl ?_
            refine qr_iastore 88 rfl (by decide) rfl (by omega) (by decide) rfl ?_
            refine qy_wA (qw_r α519 108 (qzu (α519 108) (x1 : Int).toNat (σ 86 32))) rfl (fun α530 e531 => ?_)
            have hI532 : qI σ12 α530 κ ρ := by rw [e531]; exact qI_r hI520 108 _ rfl (show (-1) ≤ (σ 86 32) ∧ (σ 86 32) ≤ 120 by omega)
            have hF533 : qFr [(86, 32), (86, 35), (86, 36), (86, 37), (86, 38), (86, 39)] [107, 108] σ α σ12 α530 := by rw [e531]; exact qFr_r hF521 108 _ (by decide)
            refine qr_iconst 89 rfl rfl ?_
            refine qr_retI rfl rfl (by decide) (by decide) ?_
            exact ⟨_, _, rfl, hI532, hF533, 1, rfl, by omega, (by have hw : σ12 86 32 = 0 := (congrFun (congrFun e13 86) 32).trans rfl; have hq := hx6; rw [show qtT (α 106) (α 107) (-1) = α 106 from if_pos (by decide)] at hq; unfold qReW at hq; exact Or.inr ⟨by omega, by omega, Or.inl ⟨by omega, by omega, (((congrFun e531 107).trans ((qw_r_ne (by decide)).trans hx525))).trans (by rw [show (u517 : Int).toNat = (σ 86 32 : Int).toNat by omega]), (((congrFun e531 108).trans (qw_r_eq.trans (congrArg (fun f => qzu f (x1 : Int).toNat (σ 86 32)) hk523)))).trans (by rw [show (σ 86 32) = σ 86 32 by omega])⟩⟩)⟩
          · skip
            refine qr_aload_n 57 rfl g513 rfl ?_
            refine qr_get 60 rfl rfl rfl (by decide) rfl ?_
            refine qr_bipush 62 rfl (by decide) rfl ?_
            refine qr_iload_n 63 rfl g514 rfl ?_
            refine qr_imul 64 rfl rfl ?_
            refine qr_iload 66 rfl g516 rfl ?_
            refine qr_iadd 67 rfl rfl ?_
            refine qr_aload_n 68 rfl g513 rfl ?_
            refine qr_get 71 rfl rfl rfl (by decide) rfl ?_
            refine qr_iload 73 rfl g516 rfl ?_
            refine qr_iaload 74 rfl rfl (by omega) (by decide) rfl ?_
            refine qr_topI (fun v534 hv534 => ?_)
            have hs535 : (-2147483648) ≤ v534 ∧ v534 ≤ 2147483647 := by rw [hv534]; exact hI520.2.1 106 _ (show _ < 120 by omega)
            have hrv534 : v534 = (α 106) (u517 : Int).toNat := hv534.trans (congrFun hk522 _)
            refine qr_iastore 75 rfl (by decide) rfl (by omega) (by decide) rfl ?_
            refine qy_wA (qw_r α519 107 (qzu (α519 107) (((120 * x1) + u517) : Int).toNat v534)) rfl (fun α536 e537 => ?_)
            have hI538 : qI σ12 α536 κ ρ := by rw [e537]; exact qI_r hI520 107 _ rfl (show (-2147483648) ≤ v534 ∧ v534 ≤ 2147483647 by omega)
            have hF539 : qFr [(86, 32), (86, 35), (86, 36), (86, 37), (86, 38), (86, 39)] [107, 108] σ α σ12 α536 := by rw [e537]; exact qFr_r hF521 107 _ (by decide)
            refine qr_iinc _ 78 rfl g516 (by decide) rfl rfl ?_
            refine qr_goto 50 rfl rfl ?_
            exact ih528 _ (u517 + 1) α536 (by omega) (qm_gk g513 (by decide) (Or.inl (by decide))) (qm_gk g514 (by decide) (Or.inl (by decide))) (qm_gk g515 (by decide) (Or.inr rfl)) (qm_ge _ _ _) (by omega) hI538 hF539 ((congrFun e537 106).trans ((qw_r_ne (by decide)).trans hk522)) ((congrFun e537 108).trans ((qw_r_ne (by decide)).trans hk523)) (((congrFun e537 107).trans (qw_r_eq.trans (congrArg (fun f => qzu f (((120 * x1) + u517) : Int).toNat v534) hx525))).trans (qtp_s (by omega) (by omega) hrv534)) (by omega)
      exact hL527 ((120 - 0 + 1 : Int)).toNat _ 0 α (by omega) rfl rfl rfl rfl (by omega) hI14 hF15 rfl rfl rfl (by omega)
    · skip
      refine qr_bipush 41 rfl (by decide) rfl ?_
      refine qr_aload_n 42 rfl rfl rfl ?_
      refine qr_get 45 rfl rfl rfl (by decide) rfl ?_
      refine qy_v (σ7 86 38) ((congrFun (congrFun e13 86) 38).trans rfl) ?_
      refine qr_isub 46 rfl rfl ?_
      refine qr_retI rfl rfl (by decide) (by decide) ?_
      exact ⟨_, _, rfl, hI14, hF15, ((-100) - (σ7 86 38)), rfl, by omega, (by have hw : σ12 86 32 = 0 := (congrFun (congrFun e13 86) 32).trans rfl; have hq := hx6; rw [show qtT (α 106) (α 107) (-1) = α 106 from if_pos (by decide)] at hq; unfold qReW at hq; exact Or.inr ⟨by omega, by omega, Or.inr ⟨by omega, by omega, rfl, rfl⟩⟩)⟩
  · skip
    refine qr_iconst 11 rfl rfl ?_
    refine qr_retI rfl rfl (by decide) (by decide) ?_
    exact ⟨_, _, rfl, hI, hF0, (-1), rfl, by omega, (Or.inl ⟨by omega, by omega, by omega, rfl, rfl⟩)⟩

theorem qPW_dep {σ α : Nat → Nat → Int} {κ : Nat → Option Nat} {u : Nat} {f : (Nat → Int) → Int} (hc : ∃ c : Nat, κ u = some c ∧ (c = 50 ∨ c = 54 ∨ c = 82)) (h : qPW σ α κ u f) : ∀ N N' : Nat → Int, (∀ k : Nat, k < 9 → N k = N' k) → f N = f N' := fun N N' hn => by
  obtain ⟨c, h1, h2⟩ := hc
  obtain ⟨gi, _, hD, _⟩ := h c h1 h2
  exact hD N N' (fun k h0 h9 _ => hn k.toNat (by omega))
theorem qPG_b {σ α : Nat → Nat → Int} {κ : Nat → Option Nat} {ρ : Nat} (hI : qI σ α κ ρ) : ∀ u : Nat, u < 2 → α 108 u ≤ 120 := fun u hu => by
  have h : -1 ≤ α 108 u ∧ α 108 u ≤ 120 := hI.2.1 108 u hu
  exact h.2
theorem qPG_n {σ α α' : Nat → Nat → Int} {T : Nat → Int} {n x : Int} (hn : 0 ≤ n ∧ n ≤ 120) (h7 : α' 107 = qtp (α 107) T (120 * x) (n : Int).toNat) (h8 : α' 108 = qzu (α 108) (x : Int).toNat n) (hx : x = 0 ∨ x = 1) (hz : ∀ N, (qtx_W T n N).2.2 = 0) (hd : ∀ N N' : Nat → Int, (∀ k : Nat, k < 9 → N k = N' k) → (qtx_W T n N).1 = (qtx_W T n N').1) : qPG σ α' x (fun N => (qtx_W T n N).1) := by
  have e8 : α' 108 (x : Int).toNat = n := by
    rw [h8]
    exact if_pos rfl
  have e7 : ∀ j : Nat, (j : Int) < n → (fun j => α' 107 ((120 * x).toNat + j)) j = T j := fun j hj => by
    show α' 107 ((120 * x).toNat + j) = T j
    rw [h7]
    exact qtp_in (by omega) _ j (by omega)
  unfold qPG
  rw [e8]
  refine ⟨fun N => ⟨fun _ => ?_, fun h => absurd h (by omega)⟩, hd⟩
  rw [qtx_W_cg e7 N]
  exact ⟨hz N, rfl⟩
theorem qPG_o {σ α α' : Nat → Nat → Int} {T : Nat → Int} {n x u : Int} {g : (Nat → Int) → Int} (hn : 0 ≤ n ∧ n ≤ 120) (h7 : α' 107 = qtp (α 107) T (120 * x) (n : Int).toNat) (h8 : α' 108 = qzu (α 108) (x : Int).toNat n) (hx : (x = 0 ∧ u = 1) ∨ (x = 1 ∧ u = 0)) (hb : ∀ u : Nat, u < 2 → α 108 u ≤ 120) (h : qPG σ α u g) : qPG σ α' u g := by
  have e8 : α' 108 (u : Int).toNat = α 108 (u : Int).toNat := by
    rw [h8]
    exact if_neg (by omega)
  have b8 := hb (u : Int).toNat (by omega)
  have e7 : ∀ j : Nat, (j : Int) < α 108 (u : Int).toNat → (fun j => α' 107 ((120 * u).toNat + j)) j = (fun j => α 107 ((120 * u).toNat + j)) j := fun j hj => by
    show α' 107 ((120 * u).toNat + j) = α 107 ((120 * u).toNat + j)
    rw [h7]
    exact qtp_out _ (fun i hi => by omega)
  unfold qPG at h ⊢
  rw [e8]
  refine ⟨fun N => ?_, h.2⟩
  rw [qtx_W_cg e7 N]
  exact h.1 N
set_option maxHeartbeats 4000000 in
theorem ro_custom {σ α σ1 α1 σ2 α2 : Nat → Nat → Int} {κ κ1 : Nat → Option Nat} {ρ ρ1 : Nat} {x1 v1 v2 : Int} (hI : qI σ α κ ρ) (hI1 : qI σ1 α1 κ1 ρ1) (he : σ 16 15 = σ 86 32) (hT : qTp α) (hC : qRC σ α κ ρ) (hG1 : qFr [(16, 15), (50, 3), (50, 4), (50, 5), (50, 6), (50, 7), (54, 3), (54, 4), (54, 5), (54, 6), (54, 7), (82, 3), (82, 4), (82, 5), (82, 6), (82, 7)] [51, 52, 55, 56, 83, 84] σ α σ1 α1) (hG2 : qFr [(86, 32), (86, 35), (86, 36), (86, 37), (86, 38), (86, 39)] [107, 108] σ1 α1 σ2 α2) (hx : ((v1 = -1 ∧ ¬ (x1 = 0 ∨ x1 = 1) ∧ σ1 16 15 = σ 16 15) ∨ ((x1 = 0 ∨ x1 = 1) ∧ σ1 16 15 = 0 ∧ ((v1 = 1 ∧ ∀ N, (qtx_W (α 81) (σ 16 15) N).2.2 = 0) ∨ (v1 ≤ -100 ∧ ∀ N, v1 = -100 - (qtx_W (α 81) (σ 16 15) N).2.1 ∧ (qtx_W (α 81) (σ 16 15) N).2.2 = 1))))) (hw : qCW σ α κ ρ σ1 α1 κ1 ρ1 x1 v1 (fun N => (qtx_W (α 81) (σ 16 15) N).1)) (hy : ((v2 = -1 ∧ ¬ (x1 = 0 ∨ x1 = 1) ∧ σ2 86 32 = σ1 86 32 ∧ α2 107 = α1 107 ∧ α2 108 = α1 108) ∨ ((x1 = 0 ∨ x1 = 1) ∧ σ2 86 32 = 0 ∧ ((v2 = 1 ∧ (qtx_W (α1 106) (σ1 86 32) (α1 109)).2.2 = 0 ∧ α2 107 = qtp (α1 107) (α1 106) (120 * x1) (σ1 86 32 : Int).toNat ∧ α2 108 = qzu (α1 108) (x1 : Int).toNat (σ1 86 32)) ∨ (v2 = -100 - (qtx_W (α1 106) (σ1 86 32) (α1 109)).2.1 ∧ (qtx_W (α1 106) (σ1 86 32) (α1 109)).2.2 = 1 ∧ α2 107 = α1 107 ∧ α2 108 = α1 108))))) : v1 = v2 ∧ σ2 16 15 = σ2 86 32 ∧ qRC σ2 α2 κ1 ρ1 := by
  have c32 := hG1.1 86 32 (by decide)
  have c106 := hG1.2 106 (by decide)
  have c107 := hG1.2 107 (by decide)
  have c108 := hG1.2 108 (by decide)
  have d15 := hG2.1 16 15 (by decide)
  have b32 : 0 ≤ σ 86 32 ∧ σ 86 32 ≤ 120 := hI.1 86 32
  rw [c32, c106, c107, c108, ← he, ← hT.1] at hy
  obtain ⟨hd, ⟨f0, g0, a0, b0, e0⟩, ⟨f1, g1, a1, b1, e1⟩⟩ := hC
  obtain ⟨hd2, hw2⟩ := hw hd
  have hw3 := hw2 f0 f1 a0 a1
  have up : ∀ {u : Nat} {f : (Nat → Int) → Int}, qPW σ1 α1 κ1 u f → qPW σ2 α2 κ1 u f := fun h => qPW_fr hG2 (by decide) (by decide) h
  have same : ¬ v1 = 1 → α2 107 = α 107 → α2 108 = α 108 → qRC σ2 α2 κ1 ρ1 := fun hv h7 h8 => by
    have h9 := hw3.1 hv
    refine ⟨hd2, ⟨f0, g0, up h9.1, ?_, e0⟩, ⟨f1, g1, up h9.2, ?_, e1⟩⟩
    · unfold qPG
      rw [h7, h8]
      exact b0
    · unfold qPG
      rw [h7, h8]
      exact b1
  rcases hx with ⟨x0, xa, xb⟩ | ⟨x0, xa, ⟨xb, xc⟩ | ⟨xb, xc⟩⟩
  · rcases hy with ⟨y0, ya, yb, yc, yd⟩ | ⟨y0, ya, yb⟩
    · exact ⟨by omega, by omega, same (by omega) yc yd⟩
    · exact absurd y0 xa
  · have h1 := xc (α1 109)
    rcases hy with ⟨y0, ya, yb⟩ | ⟨y0, ya, ⟨yb, yc, y7, y8⟩ | ⟨yb, yc, y7, y8⟩⟩
    · exact absurd x0 ya
    · refine ⟨by omega, by omega, ?_⟩
      have h9 := hw3.2 xb
      rcases x0 with rfl | rfl
      · have h10 := h9.1 rfl
        exact ⟨hd2, ⟨_, _, up h10.1, qPG_n (by omega) y7 y8 (Or.inl rfl) xc (qPW_dep hI1.2.2.1.1 h10.1), qAg_rf _⟩, ⟨f1, g1, up h10.2, qPG_o (x := 0) (u := 1) (by omega) y7 y8 (Or.inl ⟨rfl, rfl⟩) (qPG_b hI) b1, e1⟩⟩
      · have h10 := h9.2 rfl
        exact ⟨hd2, ⟨f0, g0, up h10.1, qPG_o (x := 1) (u := 0) (by omega) y7 y8 (Or.inr ⟨rfl, rfl⟩) (qPG_b hI) b0, e0⟩, ⟨_, _, up h10.2, qPG_n (by omega) y7 y8 (Or.inr rfl) xc (qPW_dep hI1.2.2.1.2.1 h10.2), qAg_rf _⟩⟩
    · omega
  · have h1 := xc (α1 109)
    rcases hy with ⟨y0, ya, yb⟩ | ⟨y0, ya, ⟨yb, yc, y7, y8⟩ | ⟨yb, yc, y7, y8⟩⟩
    · exact absurd x0 ya
    · omega
    · exact ⟨by omega, by omega, same (by omega) y7 y8⟩
