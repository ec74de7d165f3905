/-! steps of a text that was read, and what working them out gives -/
def qwr (cd N : Nat → Int) (z : Int) : Nat → Int → (Nat → Int) → Int → Int
  | 0, _, _, _ => 0
  | k + 1, i, s, p =>
    if z ≤ i then 0
    else if cd i.toNat / 65536 = 48 ∨ cd i.toNat / 65536 = 97 then
      (if 120 ≤ p then 0 else qwr cd N z k (i + 1) (qzu s p.toNat (if cd i.toNat / 65536 = 48 then cd i.toNat % 65536 else if cd i.toNat % 65536 < 9 then N (cd i.toNat % 65536).toNat else 0)) (p + 1))
    else if p < 1 then 0
    else if cd i.toNat / 65536 = 59 then s (p - 1).toNat
    else if cd i.toNat / 65536 = 63 then qwr cd N z k (if s (p - 1).toNat = 0 ∧ i + 1 ≤ cd i.toNat % 65536 then cd i.toNat % 65536 else i + 1) s (p - 1)
    else if cd i.toNat / 65536 = 33 then qwr cd N z k (i + 1) (qzu s (p - 1).toNat (if s (p - 1).toNat = 0 then 1 else 0)) p
    else if cd i.toNat / 65536 = 126 then qwr cd N z k (i + 1) (qzu s (p - 1).toNat (qz (-(s (p - 1).toNat))).toInt) p
    else if p < 2 then 0
    else qwr cd N z k (i + 1) (qzu s (p - 2).toNat (qtx_ap (cd i.toNat / 65536) (s (p - 2).toNat) (s (p - 1).toNat))) (p - 1)
theorem qwr_fu (cd N : Nat → Int) (z : Int) : ∀ (k k' : Nat) (i : Int) (s : Nat → Int) (p : Int), z - i ≤ (k : Int) → z - i ≤ (k' : Int) → qwr cd N z k i s p = qwr cd N z k' i s p := by
  intro k
  induction k with
  | zero =>
    intro k' i s p h1 h2
    cases k' with
    | zero => rfl
    | succ k' => exact (if_pos (show z ≤ i by omega)).symm
  | succ k ih =>
    intro k' i s p h1 h2
    cases k' with
    | zero => exact if_pos (show z ≤ i by omega)
    | succ k' =>
      have f : ∀ (i' : Int) (s' : Nat → Int) (p' : Int), i + 1 ≤ i' → qwr cd N z k i' s' p' = qwr cd N z k' i' s' p' := fun i' s' p' hi => ih k' i' s' p' (by omega) (by omega)
      unfold qwr
      by_cases c0 : z ≤ i
      · rw [if_pos c0, if_pos c0]
      · rw [if_neg c0, if_neg c0]
        by_cases c1 : cd i.toNat / 65536 = 48 ∨ cd i.toNat / 65536 = 97
        · rw [if_pos c1, if_pos c1, f _ _ _ (Int.le_refl _)]
        · rw [if_neg c1, if_neg c1, f _ _ _ (Int.le_refl _), f _ _ _ (Int.le_refl _), f _ _ _ (Int.le_refl _)]
          by_cases c2 : s (p - 1).toNat = 0 ∧ i + 1 ≤ cd i.toNat % 65536
          · rw [if_pos c2, f _ _ _ c2.2]
          · rw [if_neg c2, f _ _ _ (Int.le_refl _)]
def qwv (cd N : Nat → Int) (z i : Int) (s : Nat → Int) (p : Int) : Int := qwr cd N z (z - i).toNat i s p
theorem qwv_end {cd N : Nat → Int} {z i : Int} {s : Nat → Int} {p : Int} (h : z ≤ i) : qwv cd N z i s p = 0 := by
  unfold qwv
  rw [show (z - i).toNat = 0 by omega]
  rfl
theorem qwv_s (cd N : Nat → Int) {z i : Int} (s : Nat → Int) (p : Int) (h : i < z) : qwv cd N z i s p =
    if cd i.toNat / 65536 = 48 ∨ cd i.toNat / 65536 = 97 then
      (if 120 ≤ p then 0 else qwv cd N z (i + 1) (qzu s p.toNat (if cd i.toNat / 65536 = 48 then cd i.toNat % 65536 else if cd i.toNat % 65536 < 9 then N (cd i.toNat % 65536).toNat else 0)) (p + 1))
    else if p < 1 then 0
    else if cd i.toNat / 65536 = 59 then s (p - 1).toNat
    else if cd i.toNat / 65536 = 63 then qwv cd N z (if s (p - 1).toNat = 0 ∧ i + 1 ≤ cd i.toNat % 65536 then cd i.toNat % 65536 else i + 1) s (p - 1)
    else if cd i.toNat / 65536 = 33 then qwv cd N z (i + 1) (qzu s (p - 1).toNat (if s (p - 1).toNat = 0 then 1 else 0)) p
    else if cd i.toNat / 65536 = 126 then qwv cd N z (i + 1) (qzu s (p - 1).toNat (qz (-(s (p - 1).toNat))).toInt) p
    else if p < 2 then 0
    else qwv cd N z (i + 1) (qzu s (p - 2).toNat (qtx_ap (cd i.toNat / 65536) (s (p - 2).toNat) (s (p - 1).toNat))) (p - 1) := by
  have f : ∀ (i' : Int) (s' : Nat → Int) (p' : Int), i + 1 ≤ i' → qwr cd N z (z - i - 1).toNat i' s' p' = qwv cd N z i' s' p' := fun i' s' p' hi => qwr_fu cd N z _ _ i' s' p' (by omega) (by omega)
  have e : qwv cd N z i s p = qwr cd N z ((z - i - 1).toNat + 1) i s p := qwr_fu cd N z _ _ i s p (by omega) (by omega)
  rw [e]
  unfold qwr
  rw [if_neg (show ¬ z ≤ i by omega), f _ _ _ (Int.le_refl _), f _ _ _ (Int.le_refl _), f _ _ _ (Int.le_refl _), f _ _ _ (Int.le_refl _)]
  by_cases c2 : s (p - 1).toNat = 0 ∧ i + 1 ≤ cd i.toNat % 65536
  · rw [if_pos c2, f _ _ _ c2.2]
  · rw [if_neg c2, f _ _ _ (Int.le_refl _)]
/-- steps from i to j lay one number on the pile -/
def qtx_X (cd : Nat → Int) (i j : Int) (f : (Nat → Int) → Int) : Prop := (0 ≤ i ∧ i < j) ∧ ∀ cd' : Nat → Int, (∀ k : Int, i ≤ k → k < j → cd' k.toNat = cd k.toNat) → ∀ (N : Nat → Int) (z : Int) (s : Nat → Int) (p : Int), j ≤ z → 0 ≤ p → p + (j - i) ≤ 120 → ∃ s' : Nat → Int, (∀ k : Nat, (k : Int) < p → s' k = s k) ∧ s' p.toNat = f N ∧ qwv cd' N z i s p = qwv cd' N z j s' (p + 1)
theorem qtx_X_fr {cd cd2 : Nat → Int} {i j : Int} {f : (Nat → Int) → Int} (h : qtx_X cd i j f) (e : ∀ k : Int, i ≤ k → k < j → cd2 k.toNat = cd k.toNat) : qtx_X cd2 i j f :=
  ⟨h.1, fun cd' hc => h.2 cd' (fun k h1 h2 => (hc k h1 h2).trans (e k h1 h2))⟩
theorem qtx_X_num {cd : Nat → Int} {i v : Int} (hi : 0 ≤ i) (hv : 0 ≤ v ∧ v < 65536) (hc : cd i.toNat = 48 * 65536 + v) : qtx_X cd i (i + 1) (fun _ => v) := by
  refine ⟨by omega, fun cd' he N z s p hz hp hl => ⟨qzu s p.toNat v, fun k hk => ?_, ?_, ?_⟩⟩
  · unfold qzu; rw [if_neg (by omega)]
  · unfold qzu; rw [if_pos rfl]
  · have e : cd' i.toNat = 48 * 65536 + v := (he i (Int.le_refl _) (by omega)).trans hc
    rw [qwv_s cd' N s p (by omega), if_pos (Or.inl (by omega)), if_neg (by omega), if_pos (by omega), show cd' i.toNat % 65536 = v by omega]
theorem qtx_X_nam {cd : Nat → Int} {i m : Int} (hi : 0 ≤ i) (hm : 0 ≤ m ∧ m < 9) (hc : cd i.toNat = 97 * 65536 + m) : qtx_X cd i (i + 1) (fun N => N m.toNat) := by
  refine ⟨by omega, fun cd' he N z s p hz hp hl => ⟨qzu s p.toNat (N m.toNat), fun k hk => ?_, ?_, ?_⟩⟩
  · unfold qzu; rw [if_neg (by omega)]
  · unfold qzu; rw [if_pos rfl]
  · have e : cd' i.toNat = 97 * 65536 + m := (he i (Int.le_refl _) (by omega)).trans hc
    rw [qwv_s cd' N s p (by omega), if_pos (Or.inr (by omega)), if_neg (by omega), if_neg (by omega), if_pos (by omega), show cd' i.toNat % 65536 = m by omega]
theorem qtx_X_not {cd : Nat → Int} {i j : Int} {f : (Nat → Int) → Int} (h : qtx_X cd i j f) (hc : cd j.toNat = 33 * 65536) : qtx_X cd i (j + 1) (fun N => qtx_ng 33 (f N)) := by
  refine ⟨by have := h.1; omega, fun cd' he N z s p hz hp hl => ?_⟩
  have h1 := h.1
  obtain ⟨s1, a1, a2, a3⟩ := h.2 cd' (fun k h1 h2 => he k h1 (by omega)) N z s p (by omega) hp (by omega)
  have e : cd' j.toNat = 33 * 65536 := (he j (by omega) (by omega)).trans hc
  refine ⟨qzu s1 p.toNat (if s1 p.toNat = 0 then 1 else 0), fun k hk => ?_, ?_, ?_⟩
  · unfold qzu; rw [if_neg (by omega)]; exact a1 k hk
  · show qzu s1 p.toNat (if s1 p.toNat = 0 then 1 else 0) p.toNat = qtx_ng 33 (f N)
    unfold qzu
    rw [if_pos rfl, ← a2]
    rfl
  · rw [a3, qwv_s cd' N s1 (p + 1) (by omega), if_neg (by omega), if_neg (by omega), if_neg (by omega), if_neg (by omega), if_pos (by omega), show p + 1 - 1 = p by omega]
theorem qtx_X_neg {cd : Nat → Int} {i j : Int} {f : (Nat → Int) → Int} (h : qtx_X cd i j f) (hc : cd j.toNat = 126 * 65536) : qtx_X cd i (j + 1) (fun N => qtx_ng 45 (f N)) := by
  refine ⟨by have := h.1; omega, fun cd' he N z s p hz hp hl => ?_⟩
  have h1 := h.1
  obtain ⟨s1, a1, a2, a3⟩ := h.2 cd' (fun k h1 h2 => he k h1 (by omega)) N z s p (by omega) hp (by omega)
  have e : cd' j.toNat = 126 * 65536 := (he j (by omega) (by omega)).trans hc
  refine ⟨qzu s1 p.toNat (qz (-(s1 p.toNat))).toInt, fun k hk => ?_, ?_, ?_⟩
  · unfold qzu; rw [if_neg (by omega)]; exact a1 k hk
  · show qzu s1 p.toNat (qz (-(s1 p.toNat))).toInt p.toNat = qtx_ng 45 (f N)
    unfold qzu
    rw [if_pos rfl, ← a2]
    rfl
  · rw [a3, qwv_s cd' N s1 (p + 1) (by omega), if_neg (by omega), if_neg (by omega), if_neg (by omega), if_neg (by omega), if_neg (by omega), if_pos (by omega), show p + 1 - 1 = p by omega]
theorem qtx_X_bin {cd : Nat → Int} {i j k c : Int} {f g : (Nat → Int) → Int} (hf : qtx_X cd i j f) (hg : qtx_X cd j k g) (ho : 0 ≤ qtx_lo c) (hc : cd k.toNat = c * 65536) : qtx_X cd i (k + 1) (fun N => qtx_ap c (f N) (g N)) := by
  have h1 := hf.1
  have h2 := hg.1
  have hq := qtx_lo_c c
  refine ⟨by omega, fun cd' he N z s p hz hp hl => ?_⟩
  obtain ⟨s1, a1, a2, a3⟩ := hf.2 cd' (fun x b1 b2 => he x b1 (by omega)) N z s p (by omega) hp (by omega)
  obtain ⟨s2, c1, c2, c3⟩ := hg.2 cd' (fun x b1 b2 => he x (by omega) (by omega)) N z s1 (p + 1) (by omega) (by omega) (by omega)
  have e : cd' k.toNat = c * 65536 := (he k (by omega) (by omega)).trans hc
  have d : s2 p.toNat = f N := (c1 p.toNat (by omega)).trans a2
  refine ⟨qzu s2 p.toNat (qtx_ap (cd' k.toNat / 65536) (s2 p.toNat) (s2 (p + 1).toNat)), fun x hx => ?_, ?_, ?_⟩
  · unfold qzu; rw [if_neg (by omega)]; exact (c1 x (by omega)).trans (a1 x hx)
  · unfold qzu; rw [if_pos rfl, d, c2, show cd' k.toNat / 65536 = c by omega]
  · rw [a3, c3, qwv_s cd' N s2 (p + 1 + 1) (by omega), if_neg (by omega), if_neg (by omega), if_neg (by omega), if_neg (by omega), if_neg (by omega), if_neg (by omega), if_neg (by omega), show p + 1 + 1 - 2 = p by omega, show p + 1 + 1 - 1 = p + 1 by omega]
/-- steps up to j: lines, of which the first that counts was among them or not -/
def qtx_Y (cd : Nat → Int) (j : Int) (gi ge : (Nat → Int) → Int) : Prop := 0 ≤ j ∧ ∀ cd' : Nat → Int, (∀ k : Int, 0 ≤ k → k < j → cd' k.toNat = cd k.toNat) → ∀ (N : Nat → Int) (z : Int) (s : Nat → Int), j ≤ z → (gi N = 1 ∧ qwv cd' N z 0 s 0 = ge N) ∨ (gi N = 0 ∧ ge N = 0 ∧ ∃ s' : Nat → Int, qwv cd' N z 0 s 0 = qwv cd' N z j s' 0)
theorem qtx_Y_0 (cd : Nat → Int) : qtx_Y cd 0 (fun _ => 0) (fun _ => 0) := ⟨Int.le_refl _, fun _ _ _ _ s _ => Or.inr ⟨rfl, rfl, s, rfl⟩⟩
theorem qtx_Y_fr {cd cd2 : Nat → Int} {j : Int} {gi ge : (Nat → Int) → Int} (h : qtx_Y cd j gi ge) (e : ∀ k : Int, 0 ≤ k → k < j → cd2 k.toNat = cd k.toNat) : qtx_Y cd2 j gi ge :=
  ⟨h.1, fun cd' hc => h.2 cd' (fun k h1 h2 => (hc k h1 h2).trans (e k h1 h2))⟩
theorem qtx_Y_pl {cd : Nat → Int} {i j : Int} {gi ge f : (Nat → Int) → Int} (h : qtx_Y cd i gi ge) (hx : qtx_X cd i j f) (hl : j - i ≤ 120) (hc : cd j.toNat = 59 * 65536) : qtx_Y cd (j + 1) (fun N => qtx_gi (gi N) 1) (fun N => qtx_ge (gi N) 1 (ge N) (f N)) := by
  have h0 := h.1
  have h1 := hx.1
  refine ⟨by omega, fun cd' he N z s hz => Or.inl ⟨if_pos (Or.inr rfl), ?_⟩⟩
  have e : cd' j.toNat = 59 * 65536 := (he j (by omega) (by omega)).trans hc
  show qwv cd' N z 0 s 0 = qtx_ge (gi N) 1 (ge N) (f N)
  unfold qtx_ge
  rcases h.2 cd' (fun k b1 b2 => he k b1 (by omega)) N z s (by omega) with ⟨g1, g2⟩ | ⟨g1, g2, s1, g3⟩
  · rw [if_pos g1, g2]
  · obtain ⟨s2, a1, a2, a3⟩ := hx.2 cd' (fun k b1 b2 => he k (by omega) (by omega)) N z s1 0 (by omega) (Int.le_refl _) (by omega)
    rw [if_neg (by omega), if_pos rfl, g3, a3, qwv_s cd' N s2 (0 + 1) (by omega), if_neg (by omega), if_neg (by decide), if_pos (by omega)]
    exact a2
theorem qtx_Y_if {cd : Nat → Int} {i j k : Int} {gi ge f g : (Nat → Int) → Int} (h : qtx_Y cd i gi ge) (hx : qtx_X cd i j f) (hl : j - i ≤ 120) (hc : cd j.toNat = 63 * 65536 + (k + 1)) (hk : k < 65535) (hy : qtx_X cd (j + 1) k g) (hl2 : k - (j + 1) ≤ 120) (hc2 : cd k.toNat = 59 * 65536) : qtx_Y cd (k + 1) (fun N => qtx_gi (gi N) (if f N = 0 then 0 else 1)) (fun N => qtx_ge (gi N) (if f N = 0 then 0 else 1) (ge N) (g N)) := by
  have h0 := h.1
  have h1 := hx.1
  have h2 := hy.1
  refine ⟨by omega, fun cd' he N z s hz => ?_⟩
  have e : cd' j.toNat = 63 * 65536 + (k + 1) := (he j (by omega) (by omega)).trans hc
  have e2 : cd' k.toNat = 59 * 65536 := (he k (by omega) (by omega)).trans hc2
  show (qtx_gi (gi N) (if f N = 0 then 0 else 1) = 1 ∧ qwv cd' N z 0 s 0 = qtx_ge (gi N) (if f N = 0 then 0 else 1) (ge N) (g N)) ∨ (qtx_gi (gi N) (if f N = 0 then 0 else 1) = 0 ∧ qtx_ge (gi N) (if f N = 0 then 0 else 1) (ge N) (g N) = 0 ∧ ∃ s' : Nat → Int, qwv cd' N z 0 s 0 = qwv cd' N z (k + 1) s' 0)
  unfold qtx_gi qtx_ge
  rcases h.2 cd' (fun k b1 b2 => he k b1 (by omega)) N z s (by omega) with ⟨g1, g2⟩ | ⟨g1, g2, s1, g3⟩
  · exact Or.inl ⟨if_pos (Or.inl g1), by rw [if_pos g1, g2]⟩
  · obtain ⟨s2, a1, a2, a3⟩ := hx.2 cd' (fun x b1 b2 => he x (by omega) (by omega)) N z s1 0 (by omega) (Int.le_refl _) (by omega)
    have a4 : s2 (0 + 1 - 1 : Int).toNat = f N := a2
    have st : qwv cd' N z 0 s 0 = qwv cd' N z (if f N = 0 ∧ j + 1 ≤ k + 1 then k + 1 else j + 1) s2 0 := by
      rw [g3, a3, qwv_s cd' N s2 (0 + 1) (by omega), if_neg (by omega), if_neg (by decide), if_neg (by omega), if_pos (by omega), a4, show cd' j.toNat % 65536 = k + 1 by omega]
      rfl
    by_cases c : f N = 0
    · rw [if_pos ⟨c, by omega⟩] at st
      rw [if_pos c]
      exact Or.inr ⟨if_neg (by omega), by rw [if_neg (by omega), if_neg (by decide)]; exact g2, s2, st⟩
    · rw [if_neg (fun q => c q.1)] at st
      rw [if_neg c]
      obtain ⟨s3, b1, b2, b3⟩ := hy.2 cd' (fun x d1 d2 => he x (by omega) (by omega)) N z s2 0 (by omega) (Int.le_refl _) (by omega)
      refine Or.inl ⟨if_pos (Or.inr rfl), ?_⟩
      rw [if_neg (by omega), if_pos rfl, st, b3, qwv_s cd' N s3 (0 + 1) (by omega), if_neg (by omega), if_neg (by decide), if_pos (by omega)]
      exact b2
theorem qtx_Y_all {cd : Nat → Int} {j : Int} {gi ge : (Nat → Int) → Int} (h : qtx_Y cd j gi ge) (N s : Nat → Int) : qwv cd N j 0 s 0 = ge N := by
  rcases h.2 cd (fun _ _ _ => rfl) N j s (Int.le_refl _) with ⟨_, g2⟩ | ⟨_, g2, s', g3⟩
  · exact g2
  · rw [g3, g2, qwv_end (Int.le_refl _)]
/-- a step with its argument -/
theorem qtx_em {a b : Int} (ha : 0 ≤ a ∧ a ≤ 126) (hb : 0 ≤ b ∧ b < 65536) : qz_or (qz_shl a 16) b = a * 65536 + b := by
  have h1 : (qlz (qz_or (qz_shl a 16) b) : Int) = a * 65536 + b := by
    rw [qlz_or]
    have e1 : ∀ x : Fin 127, qlz (qz_shl ((x : Nat) : Int) 16) = (x : Nat) <<< 16 := by decide +kernel
    have e2 := e1 ⟨a.toNat, by omega⟩
    have e3 : ((a.toNat : Nat) : Int) = a := by omega
    have e4 : qlz (qz_shl a 16) = a.toNat <<< 16 := by rw [← e3]; exact e2
    have e5 := qlz_nn (a := b) (by omega)
    have e6 : qlz b < 2 ^ 16 := by omega
    rw [e4, ← Nat.shiftLeft_add_eq_or_of_lt e6, Nat.shiftLeft_eq]
    omega
  have h2 := qlz_nn (a := a * 65536 + b) (by omega)
  have h3 := qz_or_r (qz_shl a 16) b
  have h4 : qz (qz_or (qz_shl a 16) b) = qz (a * 65536 + b) := by
    have : (qz (qz_or (qz_shl a 16) b)).toBitVec = (qz (a * 65536 + b)).toBitVec := BitVec.eq_of_toNat_eq (show qlz _ = qlz _ by omega)
    exact Int32.toBitVec_inj.1 this
  exact qz_val h4 h3 (by omega)
