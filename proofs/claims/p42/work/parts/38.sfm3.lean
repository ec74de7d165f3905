section QYL
variable {X : qm_X} {d : Nat} {x : qs_Ent} {Q : Option Value → qm_W → Prop} {pc : Nat} {ls : qm_L} {st : List Value} {w : qm_W} {c n : Nat}
theorem qy_low {a : Int} (h : (-2147483648 ≤ a ∧ a ≤ 2147483647) ∧ ¬ a = 0) (k : ∀ v : Int, ((-2147483648 ≤ v ∧ v ≤ 2147483647) ∧ ((qz v).toBitVec.toNat : Int) < ((qz a).toBitVec.toNat : Int)) → qr_W X d x Q (pc, ls, .int (qz v) :: st, w, c, n)) : qr_W X d x Q (pc, ls, .int (qz (qz_and a (a - 1))) :: st, w, c, n) := by
  refine k _ ⟨qz_rng _, ?_⟩
  have e1 : qz (qz_and a (a - 1)) = qz a &&& (qz a - qz 1) := by unfold qz_and; rw [← qz_of, qz_sub]
  have e2 : (qz a).toBitVec.toNat ≠ 0 := fun h0 => h.2 (by
    have h1 : (qz a).toBitVec = 0#32 := BitVec.eq_of_toNat_eq h0
    have h2 : (qz a).toInt = a := qz_ti h.1
    have h3 : (qz a).toInt = (qz a).toBitVec.toInt := rfl
    rw [h1] at h3
    rw [← h2, h3]
    rfl)
  have e3 : (qz a &&& (qz a - qz 1)).toBitVec.toNat ≤ (qz a - qz 1).toBitVec.toNat := by rw [Int32.toBitVec_and, BitVec.toNat_and]; exact Nat.and_le_right
  have e4 : (qz a - qz 1).toBitVec.toNat = (4294967296 - 1 + (qz a).toBitVec.toNat) % 4294967296 := by rw [Int32.toBitVec_sub, BitVec.toNat_sub]; rfl
  have e5 : (qz a).toBitVec.toNat < 4294967296 := (qz a).toBitVec.isLt
  rw [e1]
  omega
end QYL

set_option maxHeartbeats 4000000 in
set_option maxRecDepth 20000 in
/-- OneRoofModel.bitsOf -/
theorem sf_236 {L : Nat} {xs : Nat → Int} {vb : Bool} {d : Nat} {σ α : Nat → Nat → Int} {κ : Nat → Option Nat} {ρ : Nat} {x0 : Int} (hI : qI σ α κ ρ) (r0 : (-2147483648) ≤ x0 ∧ x0 ≤ 2147483647) : qm_T (qe L xs vb) (d + 1) 236 [.int (qz x0)] (qw σ α κ ρ) (fun r w' => w' = qw σ α κ ρ ∧ ∃ v : Int, r = some (.int (qz v)) ∧ ((-2147483648) ≤ v ∧ v ≤ 2147483647)) := by
  refine qr_start (d := d + 0) qv_e236 (Nat.le_of_ble_eq_true rfl) ?_
  show qr_W (qe L xs vb) (d + 0) qx_e236 _ (0, [(0, .int (qz x0))], [], _, 0, 0)
  refine qr_iconst 1 rfl rfl ?_
  refine qr_istore_n _ 2 rfl (by decide) rfl rfl ?_
  refine qr_iload_n 3 rfl rfl rfl ?_
  refine qr_istore_n _ 4 rfl (by decide) rfl rfl ?_
  have hL262 : ∀ (n : Nat) (ls : qm_L) (u257 u259 : Int), ((qz u259).toBitVec.toNat : Int) < (n : Int) → qm_get ls 1 = some (.int (qz u257)) → qm_get ls 2 = some (.int (qz u259)) → ((-2147483648) ≤ u257 ∧ u257 ≤ 2147483647) → ((-2147483648) ≤ u259 ∧ u259 ≤ 2147483647) → qr_W (qe L xs vb) (d + 0) qx_e236 (fun r w' => w' = qw σ α κ ρ ∧ ∃ v : Int, r = some (.int (qz v)) ∧ ((-2147483648) ≤ v ∧ v ≤ 2147483647)) (4, ls, [], qw σ α κ ρ, 0, 0) := by
    intro n
    induction n with
    | zero => intro ls u257 u259 hm g256 g258 hf260 hf261; exact False.elim (by omega)
    | succ n ih263 =>
      intro ls u257 u259 hm g256 g258 hf260 hf261
      refine qr_iload_n 5 rfl g258 rfl ?_
      refine qr_if_eq 20 8 rfl rfl rfl (by omega) (fun h264 => ?_) (fun h264 => ?_)
      · skip
        refine qr_iload_n 21 rfl g256 rfl ?_
        refine qr_retI rfl rfl (by decide) (by decide) ?_
        exact ⟨rfl, u257, rfl, by omega⟩
      · skip
        refine qy_iincC 11 rfl g256 (by decide) rfl (fun v265 hv265 => ?_)
        refine qr_iload_n 12 rfl (qm_gk g258 (by decide) (Or.inl (by decide))) rfl ?_
        refine qr_iload_n 13 rfl (qm_gk g258 (by decide) (Or.inl (by decide))) rfl ?_
        refine qr_iconst 14 rfl rfl ?_
        refine qr_isub 15 rfl rfl ?_
        refine qr_iand 16 rfl rfl ?_
        refine qy_low (by omega) (fun v266 hv266 => ?_)
        refine qr_istore_n _ 17 rfl (by decide) rfl rfl ?_
        refine qr_goto 4 rfl rfl ?_
        exact ih263 _ v265 v266 (by omega) (qm_gk (qm_ge _ _ _) (by decide) (Or.inr rfl)) (qm_ge _ _ _) (by omega) (by omega)
  exact hL262 ((((qz x0).toBitVec.toNat : Int) + 1 : Int)).toNat _ 0 x0 (by omega) rfl rfl (by omega) (by omega)
