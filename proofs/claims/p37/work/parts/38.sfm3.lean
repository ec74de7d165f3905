section QYL
variable {X : qm_X} {d : Nat} {x : qs_Ent} {Q : Option Value → qm_W → Prop} {pc : Nat} {ls : qm_L} {st : List Value} {w : qm_W} {c n : Nat}
theorem qy_low {a : Int} (h : (-2147483648 ≤ a ∧ a ≤ 2147483647) ∧ ¬ a = 0) (k : ∀ v : Int, ((-2147483648 ≤ v ∧ v ≤ 2147483647) ∧ ((qz v).toBitVec.toNat : Int) < ((qz a).toBitVec.toNat : Int)) → qr_W X d x Q (pc, ls, .int (qz v) :: st, w, c, n)) : qr_W X d x Q (pc, ls, .int (qz (qz_and a (a - 1))) :: st, w, c, n) := by
  refine k _ ⟨qz_rng _, ?_⟩
  have e1 : qz (qz_and a (a - 1)) = qz a &&& (qz a - qz 1) := by unfold qz_and; rw [← qz_of, qz_sub]
  have e2 : (qz a).toBitVec.toNat ≠ 0 := fun h0 => h.2 (by
    have h1 : (qz a).toBitVec = 0#32 := BitVec.eq_of_toNat_eq h0
    have h2 : (qz a).toInt = a := qz_ti h.1
    have h3 : (qz a).toInt = (qz a).toBitVec.toInt := rfl
    rw [h1] at h3
    rw [← h2, h3]
    rfl)
  have e3 : (qz a &&& (qz a - qz 1)).toBitVec.toNat ≤ (qz a - qz 1).toBitVec.toNat := by rw [Int32.toBitVec_and, BitVec.toNat_and]; exact Nat.and_le_right
  have e4 : (qz a - qz 1).toBitVec.toNat = (4294967296 - 1 + (qz a).toBitVec.toNat) % 4294967296 := by rw [Int32.toBitVec_sub, BitVec.toNat_sub]; rfl
  have e5 : (qz a).toBitVec.toNat < 4294967296 := (qz a).toBitVec.isLt
  rw [e1]
  omega
theorem qy_lowl {a : Int} (h : (-9223372036854775808 ≤ a ∧ a ≤ 9223372036854775807) ∧ ¬ a = 0) (k : ∀ v : Int, ((-9223372036854775808 ≤ v ∧ v ≤ 9223372036854775807) ∧ ((ql v).toBitVec.toNat : Int) < ((ql a).toBitVec.toNat : Int)) → qr_W X d x Q (pc, ls, .long (ql v) :: st, w, c, n)) : qr_W X d x Q (pc, ls, .long (ql (ql_and a (a - 1))) :: st, w, c, n) := by
  refine k _ ⟨ql_rng _, ?_⟩
  have e1 : ql (ql_and a (a - 1)) = ql a &&& (ql a - ql 1) := by unfold ql_and; rw [← ql_of, ql_sub]
  have e2 : (ql a).toBitVec.toNat ≠ 0 := fun h0 => h.2 (by
    have h1 : (ql a).toBitVec = 0#64 := BitVec.eq_of_toNat_eq h0
    have h2 : (ql a).toInt = a := ql_ti h.1
    have h3 : (ql a).toInt = (ql a).toBitVec.toInt := rfl
    rw [h1] at h3
    rw [← h2, h3]
    rfl)
  have e3 : (ql a &&& (ql a - ql 1)).toBitVec.toNat ≤ (ql a - ql 1).toBitVec.toNat := by rw [Int64.toBitVec_and, BitVec.toNat_and]; exact Nat.and_le_right
  have e4 : (ql a - ql 1).toBitVec.toNat = (18446744073709551616 - 1 + (ql a).toBitVec.toNat) % 18446744073709551616 := by rw [Int64.toBitVec_sub, BitVec.toNat_sub]; rfl
  have e5 : (ql a).toBitVec.toNat < 18446744073709551616 := (ql a).toBitVec.isLt
  rw [e1]
  omega
end QYL

set_option maxHeartbeats 4000000 in
set_option maxRecDepth 20000 in
/-- OneRoofModel.bitsOf -/
theorem sf_236 {L : Nat} {xs : Nat → Int} {vb : Bool} {d : Nat} {σ α : Nat → Nat → Int} {κ : Nat → Option Nat} {ρ : Nat} {x0 : Int} (hI : qI σ α κ ρ) (r0 : (-2147483648) ≤ x0 ∧ x0 ≤ 2147483647) : qm_T (qe L xs vb) (d + 1) 236 [.int (qz x0)] (qw σ α κ ρ) (fun r w' => w' = qw σ α κ ρ ∧ ∃ v : Int, r = some (.int (qz v)) ∧ ((-2147483648) ≤ v ∧ v ≤ 2147483647)) := by
  refine qr_start (d := d + 0) qv_e236 (Nat.le_of_ble_eq_true rfl) ?_
  show qr_W (qe L xs vb) (d + 0) qx_e236 _ (0, [(0, .int (qz x0))], [], _, 0, 0)
  refine qr_iconst 1 rfl rfl ?_
  refine qr_istore_n _ 2 rfl (by decide) rfl rfl ?_
  refine qr_iload_n 3 rfl rfl rfl ?_
  refine qr_istore_n _ 4 rfl (by decide) rfl rfl ?_
  have hL262 : ∀ (n : Nat) (ls : qm_L) (u257 u259 : Int), ((qz u259).toBitVec.toNat : Int) < (n : Int) → qm_get ls 1 = some (.int (qz u257)) → qm_get ls 2 = some (.int (qz u259)) → ((-2147483648) ≤ u257 ∧ u257 ≤ 2147483647) → ((-2147483648) ≤ u259 ∧ u259 ≤ 2147483647) → qr_W (qe L xs vb) (d + 0) qx_e236 (fun r w' => w' = qw σ α κ ρ ∧ ∃ v : Int, r = some (.int (qz v)) ∧ ((-2147483648) ≤ v ∧ v ≤ 2147483647)) (4, ls, [], qw σ α κ ρ, 0, 0) := by
    intro n
    induction n with
    | zero => intro ls u257 u259 hm g256 g258 hf260 hf261; exact False.elim (by omega)
    | succ n ih263 =>
      intro ls u257 u259 hm g256 g258 hf260 hf261
      refine qr_iload_n 5 rfl g258 rfl ?_
      refine qr_if_eq 20 8 rfl rfl rfl (by omega) (fun h264 => ?_) (fun h264 => ?_)
      · skip
        refine qr_iload_n 21 rfl g256 rfl ?_
        refine qr_retI rfl rfl (by decide) (by decide) ?_
        exact ⟨rfl, u257, rfl, by omega⟩
      · skip
        refine qy_iincC 11 rfl g256 (by decide) rfl (fun v265 hv265 => ?_)
        refine qr_iload_n 12 rfl (qm_gk g258 (by decide) (Or.inl (by decide))) rfl ?_
        refine qr_iload_n 13 rfl (qm_gk g258 (by decide) (Or.inl (by decide))) rfl ?_
        refine qr_iconst 14 rfl rfl ?_
        refine qr_isub 15 rfl rfl ?_
        refine qr_iand 16 rfl rfl ?_
        refine qy_low (by omega) (fun v266 hv266 => ?_)
        refine qr_istore_n _ 17 rfl (by decide) rfl rfl ?_
        refine qr_goto 4 rfl rfl ?_
        exact ih263 _ v265 v266 (by omega) (qm_gk (qm_ge _ _ _) (by decide) (Or.inr rfl)) (qm_ge _ _ _) (by omega) (by omega)
  exact hL262 ((((qz x0).toBitVec.toNat : Int) + 1 : Int)).toNat _ 0 x0 (by omega) rfl rfl (by omega) (by omega)

set_option maxHeartbeats 4000000 in
set_option maxRecDepth 20000 in
/-- OneRoofModel.bitsIn -/
theorem sf_253 {L : Nat} {xs : Nat → Int} {vb : Bool} {d : Nat} {σ α : Nat → Nat → Int} {κ : Nat → Option Nat} {ρ : Nat} {x0 : Int} (hI : qI σ α κ ρ) (r0 : (-9223372036854775808) ≤ x0 ∧ x0 ≤ 9223372036854775807) : qm_T (qe L xs vb) (d + 1) 253 [.long (ql x0)] (qw σ α κ ρ) (fun r w' => w' = qw σ α κ ρ ∧ ∃ v : Int, r = some (.int (qz v)) ∧ ((-2147483648) ≤ v ∧ v ≤ 2147483647)) := by
  refine qr_start (d := d + 0) qv_e253 (Nat.le_of_ble_eq_true rfl) ?_
  show qr_W (qe L xs vb) (d + 0) qx_e253 _ (0, [(0, .long (ql x0))], [], _, 0, 0)
  refine qr_iconst 1 rfl rfl ?_
  refine qr_istore_n _ 2 rfl (by decide) rfl rfl ?_
  refine qr_lload_n 3 rfl rfl rfl ?_
  refine qr_lstore_n _ 4 rfl (by decide) rfl rfl ?_
  have hL262 : ∀ (n : Nat) (ls : qm_L) (u257 u259 : Int), ((ql u259).toBitVec.toNat : Int) < (n : Int) → qm_get ls 2 = some (.int (qz u257)) → qm_get ls 3 = some (.long (ql u259)) → ((-2147483648) ≤ u257 ∧ u257 ≤ 2147483647) → ((-9223372036854775808) ≤ u259 ∧ u259 ≤ 9223372036854775807) → qr_W (qe L xs vb) (d + 0) qx_e253 (fun r w' => w' = qw σ α κ ρ ∧ ∃ v : Int, r = some (.int (qz v)) ∧ ((-2147483648) ≤ v ∧ v ≤ 2147483647)) (4, ls, [], qw σ α κ ρ, 0, 0) := by
    intro n
    induction n with
    | zero => intro ls u257 u259 hm g256 g258 hf260 hf261; exact False.elim (by omega)
    | succ n ih263 =>
      intro ls u257 u259 hm g256 g258 hf260 hf261
      refine qr_lload_n 5 rfl g258 rfl ?_
      refine qr_lconst 6 rfl rfl ?_
      refine qy_vl 0 rfl ?_
      refine qr_lc_eq 22 10 rfl rfl rfl rfl (by omega) (by omega) (fun h264 => ?_) (fun h264 => ?_)
      · skip
        refine qr_iload_n 23 rfl g256 rfl ?_
        refine qr_retI rfl rfl (by decide) (by decide) ?_
        exact ⟨rfl, u257, rfl, by omega⟩
      · skip
        refine qy_iincC 13 rfl g256 (by decide) rfl (fun v265 hv265 => ?_)
        refine qr_lload_n 14 rfl (qm_gk g258 (by decide) (Or.inl (by decide))) rfl ?_
        refine qr_lload_n 15 rfl (qm_gk g258 (by decide) (Or.inl (by decide))) rfl ?_
        refine qr_lconst 16 rfl rfl ?_
        refine qy_vl 1 rfl ?_
        refine qr_lsub 17 rfl rfl ?_
        refine qr_land 18 rfl rfl ?_
        refine qy_lowl (by omega) (fun v266 hv266 => ?_)
        refine qr_lstore_n _ 19 rfl (by decide) rfl rfl ?_
        refine qr_goto 4 rfl rfl ?_
        exact ih263 _ v265 v266 (by omega) (qm_gk2 (qm_ge _ _ _) (by decide) (by decide) (Or.inr rfl)) (qm_ge2 _ _ _) (by omega) (by omega)
  exact hL262 ((((ql x0).toBitVec.toNat : Int) + 1 : Int)).toNat _ 0 x0 (by omega) rfl rfl (by omega) (by omega)

set_option maxHeartbeats 4000000 in
set_option maxRecDepth 20000 in
/-- OneRoofModel.count -/
theorem sf_271_86 {L : Nat} {xs : Nat → Int} {vb : Bool} {d : Nat} {σ α : Nat → Nat → Int} {κ : Nat → Option Nat} {ρ : Nat} {x1 : Int} (hI : qI σ α κ ρ) (r1 : (-2147483648) ≤ x1 ∧ x1 ≤ 2147483647) : qm_T (qe L xs vb) (d + 2) 271 [.ref 86, .int (qz x1)] (qw σ α κ ρ) (fun r w' => w' = qw σ α κ ρ ∧ ∃ v : Int, r = some (.int (qz v)) ∧ ((-2147483648) ≤ v ∧ v ≤ 2147483647)) := by
  refine qr_start (d := d + 1) qv_e271 (Nat.le_of_ble_eq_true rfl) ?_
  show qr_W (qe L xs vb) (d + 1) qx_e271 _ (0, [(0, .ref 86), (1, .int (qz x1))], [], _, 0, 0)
  refine qr_iload_n 1 rfl rfl rfl ?_
  have h1 : x1 = 0 ∨ x1 = 1 ∨ x1 = 2 ∨ x1 = 3 ∨ x1 = 4 ∨ x1 = 5 ∨ x1 = 6 ∨ x1 = 7 ∨ (x1 < 0 ∨ 7 < x1) := by omega
  rcases h1 with h1 | h1 | h1 | h1 | h1 | h1 | h1 | h1 | h1
  · skip
    refine qr_tabIn 48 rfl (by omega) (by omega) (by rw [h1]; rfl) rfl ?_
    refine qr_aload_n 49 rfl rfl rfl ?_
    refine qr_get 52 rfl rfl rfl (by decide) rfl ?_
    have hs3 : 0 ≤ σ 86 6 ∧ σ 86 6 ≤ 32 := hI.1 86 6
    refine qr_retI rfl rfl (by decide) (by decide) ?_
    exact ⟨rfl, (σ 86 6), rfl, by omega⟩
  · skip
    refine qr_tabIn 53 rfl (by omega) (by omega) (by rw [h1]; rfl) rfl ?_
    refine qr_aload_n 54 rfl rfl rfl ?_
    refine qr_get 57 rfl rfl rfl (by decide) rfl ?_
    have hs4 : 0 ≤ σ 86 11 ∧ σ 86 11 ≤ 61 := hI.1 86 11
    refine qr_retI rfl rfl (by decide) (by decide) ?_
    exact ⟨rfl, (σ 86 11), rfl, by omega⟩
  · skip
    refine qr_tabIn 58 rfl (by omega) (by omega) (by rw [h1]; rfl) rfl ?_
    refine qr_aload_n 59 rfl rfl rfl ?_
    refine qr_get 62 rfl rfl rfl (by decide) rfl ?_
    have hs5 : 0 ≤ σ 86 16 ∧ σ 86 16 ≤ 40 := hI.1 86 16
    refine qr_retI rfl rfl (by decide) (by decide) ?_
    exact ⟨rfl, (σ 86 16), rfl, by omega⟩
  · skip
    refine qr_tabIn 63 rfl (by omega) (by omega) (by rw [h1]; rfl) rfl ?_
    refine qr_aload_n 64 rfl rfl rfl ?_
    refine qr_get 67 rfl rfl rfl (by decide) rfl ?_
    have hs6 : 0 ≤ σ 86 24 ∧ σ 86 24 ≤ 60 := hI.1 86 24
    refine qr_retI rfl rfl (by decide) (by decide) ?_
    exact ⟨rfl, (σ 86 24), rfl, by omega⟩
  · skip
    refine qr_tabIn 68 rfl (by omega) (by omega) (by rw [h1]; rfl) rfl ?_
    refine qr_aload_n 69 rfl rfl rfl ?_
    refine qr_get 72 rfl rfl rfl (by decide) rfl ?_
    have hs7 : 0 ≤ σ 86 32 ∧ σ 86 32 ≤ 120 := hI.1 86 32
    refine qr_retI rfl rfl (by decide) (by decide) ?_
    exact ⟨rfl, (σ 86 32), rfl, by omega⟩
  · skip
    refine qr_tabIn 73 rfl (by omega) (by omega) (by rw [h1]; rfl) rfl ?_
    refine qr_aload_n 74 rfl rfl rfl ?_
    refine qr_get 77 rfl rfl rfl (by decide) rfl ?_
    have hs8 : 0 ≤ σ 86 5 ∧ σ 86 5 ≤ 40 := hI.1 86 5
    refine qr_retI rfl rfl (by decide) (by decide) ?_
    exact ⟨rfl, (σ 86 5), rfl, by omega⟩
  · skip
    refine qr_tabIn 78 rfl (by omega) (by omega) (by rw [h1]; rfl) rfl ?_
    refine qr_aload_n 79 rfl rfl rfl ?_
    refine qr_get 82 rfl rfl rfl (by decide) rfl ?_
    have hs9 : (-9223372036854775808) ≤ σ 86 10 ∧ σ 86 10 ≤ 9223372036854775807 := hI.1 86 10
    refine qr_callN 85 rfl rfl rfl (sf_253 (d := d + 0) hI (by omega)) ?_
    rintro _ _ ⟨rfl, v10, rfl, hv10⟩
    show qr_W (qe L xs vb) (d + 1) qx_e271 _ (85, _, [.int (qz v10)], qw σ α κ ρ, 0, 0)
    refine qr_retI rfl rfl (by decide) (by decide) ?_
    exact ⟨rfl, v10, rfl, by omega⟩
  · skip
    refine qr_tabIn 86 rfl (by omega) (by omega) (by rw [h1]; rfl) rfl ?_
    refine qr_aload_n 87 rfl rfl rfl ?_
    refine qr_get 90 rfl rfl rfl (by decide) rfl ?_
    have hs11 : (-2147483648) ≤ σ 86 56 ∧ σ 86 56 ≤ 2147483647 := hI.1 86 56
    refine qr_retI rfl rfl (by decide) (by decide) ?_
    exact ⟨rfl, (σ 86 56), rfl, by omega⟩
  · skip
    refine qr_tabOut 91 rfl (by omega) (by omega) rfl ?_
    refine qr_iconst 92 rfl rfl ?_
    refine qr_retI rfl rfl (by decide) (by decide) ?_
    exact ⟨rfl, (-1), rfl, by omega⟩
