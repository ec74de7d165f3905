set_option maxHeartbeats 2000000 in
set_option maxRecDepth 20000 in
/-- Arrays.fill -/
theorem sp_fill {X : qm_X} {d : Nat} {u r0 : qm_W} {e : qm_E} {a N : Nat} {v : Int} {f : Nat → Int} (ha : a = 16 + u.length) (hN : 0 < N ∧ N ≤ 1000000)  : qm_T X (d + 1) 4 [.ref (a + 1), .int (qz v)] (u ++ e :: .inl (.int, N, .inl (qzf f)) :: r0) (fun r w' => r = none ∧ ∃ g : Nat → Int, w' = u ++ e :: .inl (.int, N, .inl (qzf g)) :: r0 ∧ ∀ j, j < N → g j = v) := by
  refine qr_start (d := d + 0) qv_e4 (Nat.le_of_ble_eq_true rfl) ?_
  show qr_W X (d + 0) qx_e4 _ (0, [(0, .ref (a + 1)), (1, .int (qz v))], [], u ++ e :: .inl (.int, N, .inl (qzf f)) :: r0, 0, 0)
  have loop : ∀ (n : Nat) (i : Int) (g : Nat → Int), (0 ≤ i ∧ i ≤ N ∧ N - i < n) → (∀ j, j < i.toNat → g j = v) → qr_W X d qx_e4 (fun r w' => r = none ∧ ∃ g : Nat → Int, w' = u ++ e :: .inl (.int, N, .inl (qzf g)) :: r0 ∧ ∀ j, j < N → g j = v) (5, [(2, .int (qz i)), (3, .int (qz (N : Int))), (0, .ref (a + 1)), (1, .int (qz v))], [], u ++ e :: .inl (.int, N, .inl (qzf g)) :: r0, 0, 0) := by
    intro n
    induction n with
    | zero => intro i g h1 h2; exact absurd h1 (by omega)
    | succ n ih =>
      intro i g h1 hg
      refine qr_iload_n 6 rfl rfl rfl ?_
      refine qr_iload_n 7 rfl rfl rfl ?_
      refine qr_icmp_ge 20 10 rfl rfl rfl (by omega) (by omega) (fun h => ?_) (fun h => ?_)
      · refine qr_retV rfl rfl (Nat.zero_le _) (Nat.zero_le _) ?_
        exact ⟨rfl, g, rfl, fun j hj => hg j (by omega)⟩
      · skip
        refine qr_aload_n 11 rfl rfl rfl ?_
        refine qr_iload_n 12 rfl rfl rfl ?_
        refine qr_iload_n 13 rfl rfl rfl ?_
        refine qr_iist1 ha 14 rfl (by omega) hN.2 rfl ?_
        refine qr_iincG (fun y => [(2, .int (qz y)), (3, .int (qz (N : Int))), (0, .ref (a + 1)), (1, .int (qz v))]) 17 rfl rfl (by decide) (fun _ => rfl) rfl (fun y hy => ?_)
        refine qr_goto 5 rfl rfl ?_
        refine ih y _ (by omega) ?_
        intro j hj
        unfold qzu
        split
        · rfl
        · exact hg j (by omega)
  refine qr_iconst 1 rfl rfl ?_
  refine qr_istore_n [(2, .int (qz 0)), (0, .ref (a + 1)), (1, .int (qz v))] 2 rfl (by decide) rfl rfl ?_
  refine qr_aload_n 3 rfl rfl rfl ?_
  refine qr_alen 4 rfl (qc_c (by omega) (qi_g1 u ha _ _ _)) (Or.inr (Or.inl rfl)) rfl ?_
  refine qr_istore_n [(3, .int (qz (N : Int))), (2, .int (qz 0)), (0, .ref (a + 1)), (1, .int (qz v))] 5 rfl (by decide) rfl rfl ?_
  refine qr_iload_n 6 rfl rfl rfl ?_
  refine qr_iload_n 7 rfl rfl rfl ?_
  refine qr_icmp_ge 20 10 rfl rfl rfl (by omega) (by omega) (fun h => absurd h (by omega)) (fun h => ?_)
  refine qr_aload_n 11 rfl rfl rfl ?_
  refine qr_iload_n 12 rfl rfl rfl ?_
  refine qr_iload_n 13 rfl rfl rfl ?_
  refine qr_iist1 ha 14 rfl (by omega) hN.2 rfl ?_
  refine qr_iincG (fun y => [(2, .int (qz y)), (3, .int (qz (N : Int))), (0, .ref (a + 1)), (1, .int (qz v))]) 17 rfl rfl (by decide) (fun _ => rfl) rfl (fun y hy => ?_)
  refine qr_goto 5 rfl rfl ?_
  refine loop (N + 1) y _ (by omega) ?_
  intro j hj
  unfold qzu
  split
  · rfl
  · omega

set_option maxHeartbeats 2000000 in
set_option maxRecDepth 20000 in
/-- Kinship.<init> -/
theorem si_Kinship {X : qm_X} {d : Nat} {u : qm_W} {a : Nat} (ha : a = 16 + u.length)  : qm_T X (d + 2) 3 [.ref a] (u ++ [.inr (2, [.null, .int (qz 0)])]) (fun r w' => r = none ∧ ∃ g : Nat → Int, w' = u ++ [.inr (2, [.ref (a + 1), .int (qz 0)]), .inl (.int, 1024, .inl (qzf g))] ∧ ∀ j : Nat, j < 1024 → g j = if j % 33 = 0 then 0 else 99) := by
  refine qr_start (d := d + 1) qv_e3 (Nat.le_of_ble_eq_true rfl) ?_
  show qr_W X (d + 1) qx_e3 _ (0, [(0, .ref a)], [], u ++ [.inr (2, [.null, .int (qz 0)])], 0, 0)
  have loop : ∀ (n : Nat) (i : Int) (g : Nat → Int), (0 ≤ i ∧ i ≤ 32 ∧ 32 - i < n) → (∀ j : Nat, j < 1024 → g j = if j % 33 = 0 ∧ ((j / 33 : Nat) : Int) < i then 0 else 99) → qr_W X (d + 1) qx_e3 (fun r w' => r = none ∧ ∃ g : Nat → Int, w' = u ++ [.inr (2, [.ref (a + 1), .int (qz 0)]), .inl (.int, 1024, .inl (qzf g))] ∧ ∀ j : Nat, j < 1024 → g j = if j % 33 = 0 then 0 else 99) (29, [(1, .int (qz i)), (0, .ref a)], [], u ++ [.inr (2, [.ref (a + 1), .int (qz 0)]), .inl (.int, 1024, .inl (qzf g))], 1, 1024) := by
    intro n
    induction n with
    | zero => intro i g h1 h2; exact absurd h1 (by omega)
    | succ n ih =>
      intro i g h1 hg
      refine qr_iload_n 30 rfl rfl rfl ?_
      refine qr_bipush 32 rfl (by decide) rfl ?_
      refine qr_icmp_ge 53 35 rfl rfl rfl (by omega) (by omega) (fun h => ?_) (fun h => ?_)
      · refine qr_retV rfl rfl (Nat.le_of_ble_eq_true rfl) (Nat.le_of_ble_eq_true rfl) ?_
        refine ⟨rfl, g, rfl, fun j hj => ?_⟩
        rw [hg j hj]
        by_cases h5 : j % 33 = 0
        · rw [if_pos ⟨h5, by omega⟩, if_pos h5]
        · rw [if_neg (fun h6 => h5 h6.1), if_neg h5]
      · refine qr_aload_n 36 rfl rfl rfl ?_
        refine qr_get 39 rfl (qc_c (by omega) (qi_g u ha _ _)) rfl (by decide) rfl ?_
        refine qr_iload_n 40 rfl rfl rfl ?_
        refine qr_bipush 42 rfl (by decide) rfl ?_
        refine qr_imul 43 rfl rfl ?_
        refine qr_iload_n 44 rfl rfl rfl ?_
        refine qr_iadd 45 rfl rfl ?_
        refine qr_topI (fun z hz => ?_)
        refine qr_iconst 46 rfl rfl ?_
        refine qr_iist1 ha 47 rfl (by omega) (by omega) rfl ?_
        refine qr_iincG (fun y => [(1, .int (qz y)), (0, .ref a)]) 50 rfl rfl (by decide) (fun _ => rfl) rfl (fun y hy => ?_)
        refine qr_goto 29 rfl rfl ?_
        refine ih y _ (by omega) ?_
        intro j hj
        unfold qzu
        by_cases h5 : j = z.toNat
        · rw [if_pos h5, if_pos ⟨by omega, by omega⟩]
        · rw [if_neg h5, hg j hj]
          by_cases h6 : j % 33 = 0 ∧ ((j / 33 : Nat) : Int) < i
          · rw [if_pos h6, if_pos ⟨h6.1, by omega⟩]
          · rw [if_neg h6, if_neg (fun h7 => h6 ⟨h7.1, by omega⟩)]
  refine qr_aload_n 1 rfl rfl rfl ?_
  refine qr_objinit 4 rfl (by decide) rfl ?_
  refine qr_aload_n 5 rfl rfl rfl ?_
  refine qr_sipush 8 rfl (by decide) rfl ?_
  refine qr_inewI ha [.inr (2, [.null, .int (qz 0)]), .inl (.int, 1024, .inl (qzf (fun _ => 0)))] 10 1 1024 1 rfl (by decide) (Nat.le_of_ble_eq_true rfl) (Nat.le_of_ble_eq_true rfl) rfl rfl rfl rfl rfl ?_
  refine qr_iput ha [.ref (a + 1), .int (qz 0)] 13 rfl (Nat.le_of_ble_eq_true rfl) (Nat.le_of_ble_eq_true rfl) (Or.inr ⟨by decide, rfl⟩) (qr_fitR (Or.inr ⟨_, rfl⟩) _) rfl rfl ?_
  refine qr_aload_n 14 rfl rfl rfl ?_
  refine qr_iconst 15 rfl rfl ?_
  refine qr_iput ha [.ref (a + 1), .int (qz 0)] 18 rfl (Nat.le_of_ble_eq_true rfl) (Nat.le_of_ble_eq_true rfl) (Or.inl rfl) (qr_fitI rfl _) rfl rfl ?_
  refine qr_aload_n 19 rfl rfl rfl ?_
  refine qr_get 22 rfl (qc_c (by omega) (qi_g u ha _ _)) rfl (by decide) rfl ?_
  refine qr_bipush 24 rfl (by decide) rfl ?_
  refine qr_callC 27 rfl rfl rfl (Nat.le_of_ble_eq_true rfl) (Nat.le_of_ble_eq_true rfl) (sp_fill ha (by omega)) ?_
  rintro _ _ ⟨rfl, g, rfl, hg⟩
  simp only [Option.toList, List.drop, List.cons_append, List.nil_append]
  refine qr_iconst 28 rfl rfl ?_
  refine qr_istore_n [(1, .int (qz 0)), (0, .ref a)] 29 rfl (by decide) rfl rfl ?_
  refine loop 33 0 g (by omega) ?_
  intro j hj
  rw [hg j hj, if_neg (fun h7 => absurd h7.2 (by omega))]
