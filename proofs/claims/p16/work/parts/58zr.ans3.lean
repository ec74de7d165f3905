/-! a set of one -/
section QYVZ
variable {X : qm_X} {d : Nat} {x : qs_Ent} {Q : Option Value → qm_W → Prop} {pc : Nat} {ls : qm_L} {st : List Value} {w : qm_W} {c n : Nat}
theorem qy_vz {y : Int} (v : Int) (h : qz y = qz v) (k : qr_W X d x Q (pc, ls, .int (qz v) :: st, w, c, n)) : qr_W X d x Q (pc, ls, .int (qz y) :: st, w, c, n) := by
  rw [h]
  exact k
end QYVZ
theorem qsm_z0 {f : Nat → Int} (h : ∀ k, 0 ≤ f k ∧ f k ≤ 1) : ∀ n : Nat, qsm f n = 0 → ∀ k, k < n → f k = 0
  | 0, _, k, hk => absurd hk (Nat.not_lt_zero k)
  | n + 1, e, k, hk => by
    have e1 : qsm f n + f n = 0 := e
    have h1 := qsm_01 h n
    have h2 := h n
    by_cases c : k = n
    · rw [c]
      omega
    · exact qsm_z0 h n (by omega) k (by omega)
theorem qlt_1 {f : Nat → Int} (h : ∀ k, 0 ≤ f k ∧ f k ≤ 1) : ∀ n : Nat, qsm f n = 1 → (0 ≤ qlt f n ∧ qlt f n < n) ∧ f (qlt f n).toNat = 1 ∧ ∀ k : Nat, k < n → f k = 1 → (k : Int) = qlt f n
  | 0, e => absurd (show (0 : Int) = 1 from e) (by decide)
  | n + 1, e => by
    have e1 : qsm f n + f n = 1 := e
    have h1 := qsm_01 h n
    have h2 := h n
    by_cases c : f n = 1
    · have e2 : qlt f (n + 1) = n := if_pos c
      have z := qsm_z0 h n (by omega)
      rw [e2, Int.toNat_natCast]
      refine ⟨⟨by omega, by omega⟩, c, fun k hk h3 => ?_⟩
      by_cases d : k = n
      · rw [d]
      · have := z k (by omega)
        omega
    · have e2 : qlt f (n + 1) = qlt f n := if_neg c
      have ih := qlt_1 h n (by omega)
      rw [e2]
      refine ⟨⟨ih.1.1, by omega⟩, ih.2.1, fun k hk h3 => ?_⟩
      by_cases d : k = n
      · rw [d] at h3
        exact absurd h3 c
      · exact ih.2.2 k (by omega) h3
theorem qbs_one {f : Nat → Int} (h : ∀ k, 0 ≤ f k ∧ f k ≤ 1) {n : Nat} (hn : n ≤ 60) (e : qsm f n = 1) : qbs f n = ql_shl 1 (qlt f n) := by
  have h1 := qlt_1 h n e
  refine qbit_ext (qbs_r f n) (ql_shl_r _ _) (fun i hi h64 => ?_)
  rw [qbs_bit f hi n (by omega), qbit_shl (by omega) hi]
  by_cases c : i = qlt f n
  · rw [if_pos c, if_pos ⟨by omega, by rw [c]; exact h1.2.1⟩]
  · rw [if_neg c, if_neg (fun z => c (by have := h1.2.2 i.toNat (by omega) z.2; omega))]
theorem qshl_pow : ∀ j : Fin 60, ql_shl 1 ((j : Nat) : Int) = 2 ^ (j : Nat) := by decide +kernel
theorem qpf_e {f : Nat → Int} (h : ∀ k, 0 ≤ f k ∧ f k ≤ 1) {n : Nat} (hn : n ≤ 60) (e : qsm f n = 1) : ∃ j : Nat, j < 60 ∧ qbs f n = 2 ^ j := by
  have h1 := qlt_1 h n e
  have h3 := qshl_pow ⟨(qlt f n).toNat, by omega⟩
  refine ⟨(qlt f n).toNat, by omega, ?_⟩
  rw [qbs_one h hn e, ← h3]
  show ql_shl 1 (qlt f n) = ql_shl 1 (((qlt f n).toNat : Nat) : Int)
  rw [show (((qlt f n).toNat : Nat) : Int) = qlt f n by omega]
theorem qpf_v {f : Nat → Int} (h : ∀ k, 0 ≤ f k ∧ f k ≤ 1) {n : Nat} (hn : n ≤ 60) (e : qsm f n = 1) {w : Int} (hw : 0 ≤ w ∧ w < 60) (hp : qbs f n = 2 ^ w.toNat) : w = qlt f n := by
  have h1 := qlt_1 h n e
  have h3 : ql_shl 1 (((w.toNat : Nat)) : Int) = 2 ^ w.toNat := qshl_pow ⟨w.toNat, by omega⟩
  rw [show ((w.toNat : Nat) : Int) = w by omega, ← hp, qbs_one h hn e] at h3
  have b1 := qbit_shl (p := w) (i := w) (by omega) hw.1
  have b2 := qbit_shl (p := qlt f n) (i := w) (by omega) hw.1
  rw [if_pos rfl] at b1
  rw [← h3, b1] at b2
  by_cases c : w = qlt f n
  · exact c
  · rw [if_neg c] at b2
    exact absurd b2 (by decide)
theorem qlt_eq {f g : Nat → Int} : ∀ n : Nat, (∀ k, k < n → f k = g k) → qlt f n = qlt g n
  | 0, _ => rfl
  | n + 1, h => by
    show (if f n = 1 then (n : Int) else qlt f n) = if g n = 1 then (n : Int) else qlt g n
    rw [h n (Nat.lt_succ_self n), qlt_eq n (fun k hk => h k (Nat.lt_succ_of_lt hk))]

set_option maxHeartbeats 4000000 in
set_option maxRecDepth 20000 in
/-- java/lang/Integer.numberOfTrailingZeros -/
theorem sf_83t0 {L : Nat} {xs : Nat → Int} {vb : Bool} {d : Nat} {σ α : Nat → Nat → Int} {κ : Nat → Option Nat} {ρ : Nat}  (hI : qI σ α κ ρ)  : qm_T (qe L xs vb) (d + 1) 83 [.int (qz 1)] (qw σ α κ ρ) (fun r w' => w' = qw σ α κ ρ ∧ ∃ v : Int, r = some (.int (qz v)) ∧ (0 ≤ v ∧ v ≤ 31) ∧ v = 0) := by
  refine qr_start (d := d + 0) qv_e83 (Nat.le_of_ble_eq_true rfl) ?_
  show qr_W (qe L xs vb) (d + 0) qx_e83 _ (0, [(0, .int (qz 1))], [], _, 0, 0)
  refine qr_iload_n 1 rfl rfl rfl ?_
  refine qr_iconst 2 rfl rfl ?_
  refine qr_ixor 3 rfl rfl ?_
  refine qy_v (-2) rfl ?_
  refine qr_iload_n 4 rfl rfl rfl ?_
  refine qr_iconst 5 rfl rfl ?_
  refine qr_isub 6 rfl rfl ?_
  refine qy_v 0 rfl ?_
  refine qr_iand 7 rfl rfl ?_
  refine qy_v 0 rfl ?_
  refine qr_istore_n _ 8 rfl (by decide) rfl rfl ?_
  refine qr_iload_n 9 rfl rfl rfl ?_
  refine qr_if_gt 17 12 rfl rfl rfl (by decide) (fun h => False.elim (by omega)) (fun h1 => ?_)
  refine qr_iload_n 13 rfl rfl rfl ?_
  refine qr_bipush 15 rfl (by decide) rfl ?_
  refine qr_iand 16 rfl rfl ?_
  refine qy_v 0 rfl ?_
  refine qr_retI rfl rfl (by decide) (by decide) ?_
  exact ⟨rfl, 0, rfl, (by decide), by omega⟩

set_option maxHeartbeats 4000000 in
set_option maxRecDepth 20000 in
/-- java/lang/Integer.numberOfTrailingZeros -/
theorem sf_83t1 {L : Nat} {xs : Nat → Int} {vb : Bool} {d : Nat} {σ α : Nat → Nat → Int} {κ : Nat → Option Nat} {ρ : Nat}  (hI : qI σ α κ ρ)  : qm_T (qe L xs vb) (d + 1) 83 [.int (qz 2)] (qw σ α κ ρ) (fun r w' => w' = qw σ α κ ρ ∧ ∃ v : Int, r = some (.int (qz v)) ∧ (0 ≤ v ∧ v ≤ 31) ∧ v = 1) := by
  refine qr_start (d := d + 0) qv_e83 (Nat.le_of_ble_eq_true rfl) ?_
  show qr_W (qe L xs vb) (d + 0) qx_e83 _ (0, [(0, .int (qz 2))], [], _, 0, 0)
  refine qr_iload_n 1 rfl rfl rfl ?_
  refine qr_iconst 2 rfl rfl ?_
  refine qr_ixor 3 rfl rfl ?_
  refine qy_v (-3) rfl ?_
  refine qr_iload_n 4 rfl rfl rfl ?_
  refine qr_iconst 5 rfl rfl ?_
  refine qr_isub 6 rfl rfl ?_
  refine qy_v 1 rfl ?_
  refine qr_iand 7 rfl rfl ?_
  refine qy_v 1 rfl ?_
  refine qr_istore_n _ 8 rfl (by decide) rfl rfl ?_
  refine qr_iload_n 9 rfl rfl rfl ?_
  refine qr_if_gt 17 12 rfl rfl rfl (by decide) (fun h1 => ?_) (fun h => False.elim (by omega))
  refine qr_iconst 18 rfl rfl ?_
  refine qr_istore_n _ 19 rfl (by decide) rfl rfl ?_
  refine qr_iload_n 20 rfl rfl rfl ?_
  refine qr_ldcw 65536 23 rfl (by decide) rfl ?_
  refine qr_icmp_le 34 26 rfl rfl rfl (by decide) (by decide) (fun h2 => ?_) (fun h => False.elim (by omega))
  refine qr_iload_n 35 rfl rfl rfl ?_
  refine qr_sipush 38 rfl (by decide) rfl ?_
  refine qr_icmp_le 49 41 rfl rfl rfl (by decide) (by decide) (fun h3 => ?_) (fun h => False.elim (by omega))
  refine qr_iload_n 50 rfl rfl rfl ?_
  refine qr_bipush 52 rfl (by decide) rfl ?_
  refine qr_icmp_le 62 55 rfl rfl rfl (by decide) (by decide) (fun h4 => ?_) (fun h => False.elim (by omega))
  refine qr_iload_n 63 rfl rfl rfl ?_
  refine qr_iconst 64 rfl rfl ?_
  refine qr_icmp_le 74 67 rfl rfl rfl (by decide) (by decide) (fun h5 => ?_) (fun h => False.elim (by omega))
  refine qr_iload_n 75 rfl rfl rfl ?_
  refine qr_iload_n 76 rfl rfl rfl ?_
  refine qr_iconst 77 rfl rfl ?_
  refine qr_iushr 78 rfl rfl ?_
  refine qy_v 0 rfl ?_
  refine qr_iadd 79 rfl rfl ?_
  refine qy_v 1 rfl ?_
  refine qr_retI rfl rfl (by decide) (by decide) ?_
  exact ⟨rfl, 1, rfl, (by decide), by omega⟩

set_option maxHeartbeats 4000000 in
set_option maxRecDepth 20000 in
/-- java/lang/Integer.numberOfTrailingZeros -/
theorem sf_83t2 {L : Nat} {xs : Nat → Int} {vb : Bool} {d : Nat} {σ α : Nat → Nat → Int} {κ : Nat → Option Nat} {ρ : Nat}  (hI : qI σ α κ ρ)  : qm_T (qe L xs vb) (d + 1) 83 [.int (qz 4)] (qw σ α κ ρ) (fun r w' => w' = qw σ α κ ρ ∧ ∃ v : Int, r = some (.int (qz v)) ∧ (0 ≤ v ∧ v ≤ 31) ∧ v = 2) := by
  refine qr_start (d := d + 0) qv_e83 (Nat.le_of_ble_eq_true rfl) ?_
  show qr_W (qe L xs vb) (d + 0) qx_e83 _ (0, [(0, .int (qz 4))], [], _, 0, 0)
  refine qr_iload_n 1 rfl rfl rfl ?_
  refine qr_iconst 2 rfl rfl ?_
  refine qr_ixor 3 rfl rfl ?_
  refine qy_v (-5) rfl ?_
  refine qr_iload_n 4 rfl rfl rfl ?_
  refine qr_iconst 5 rfl rfl ?_
  refine qr_isub 6 rfl rfl ?_
  refine qy_v 3 rfl ?_
  refine qr_iand 7 rfl rfl ?_
  refine qy_v 3 rfl ?_
  refine qr_istore_n _ 8 rfl (by decide) rfl rfl ?_
  refine qr_iload_n 9 rfl rfl rfl ?_
  refine qr_if_gt 17 12 rfl rfl rfl (by decide) (fun h1 => ?_) (fun h => False.elim (by omega))
  refine qr_iconst 18 rfl rfl ?_
  refine qr_istore_n _ 19 rfl (by decide) rfl rfl ?_
  refine qr_iload_n 20 rfl rfl rfl ?_
  refine qr_ldcw 65536 23 rfl (by decide) rfl ?_
  refine qr_icmp_le 34 26 rfl rfl rfl (by decide) (by decide) (fun h2 => ?_) (fun h => False.elim (by omega))
  refine qr_iload_n 35 rfl rfl rfl ?_
  refine qr_sipush 38 rfl (by decide) rfl ?_
  refine qr_icmp_le 49 41 rfl rfl rfl (by decide) (by decide) (fun h3 => ?_) (fun h => False.elim (by omega))
  refine qr_iload_n 50 rfl rfl rfl ?_
  refine qr_bipush 52 rfl (by decide) rfl ?_
  refine qr_icmp_le 62 55 rfl rfl rfl (by decide) (by decide) (fun h4 => ?_) (fun h => False.elim (by omega))
  refine qr_iload_n 63 rfl rfl rfl ?_
  refine qr_iconst 64 rfl rfl ?_
  refine qr_icmp_le 74 67 rfl rfl rfl (by decide) (by decide) (fun h5 => ?_) (fun h => False.elim (by omega))
  refine qr_iload_n 75 rfl rfl rfl ?_
  refine qr_iload_n 76 rfl rfl rfl ?_
  refine qr_iconst 77 rfl rfl ?_
  refine qr_iushr 78 rfl rfl ?_
  refine qy_v 1 rfl ?_
  refine qr_iadd 79 rfl rfl ?_
  refine qy_v 2 rfl ?_
  refine qr_retI rfl rfl (by decide) (by decide) ?_
  exact ⟨rfl, 2, rfl, (by decide), by omega⟩

set_option maxHeartbeats 4000000 in
set_option maxRecDepth 20000 in
/-- java/lang/Integer.numberOfTrailingZeros -/
theorem sf_83t3 {L : Nat} {xs : Nat → Int} {vb : Bool} {d : Nat} {σ α : Nat → Nat → Int} {κ : Nat → Option Nat} {ρ : Nat}  (hI : qI σ α κ ρ)  : qm_T (qe L xs vb) (d + 1) 83 [.int (qz 8)] (qw σ α κ ρ) (fun r w' => w' = qw σ α κ ρ ∧ ∃ v : Int, r = some (.int (qz v)) ∧ (0 ≤ v ∧ v ≤ 31) ∧ v = 3) := by
  refine qr_start (d := d + 0) qv_e83 (Nat.le_of_ble_eq_true rfl) ?_
  show qr_W (qe L xs vb) (d + 0) qx_e83 _ (0, [(0, .int (qz 8))], [], _, 0, 0)
  refine qr_iload_n 1 rfl rfl rfl ?_
  refine qr_iconst 2 rfl rfl ?_
  refine qr_ixor 3 rfl rfl ?_
  refine qy_v (-9) rfl ?_
  refine qr_iload_n 4 rfl rfl rfl ?_
  refine qr_iconst 5 rfl rfl ?_
  refine qr_isub 6 rfl rfl ?_
  refine qy_v 7 rfl ?_
  refine qr_iand 7 rfl rfl ?_
  refine qy_v 7 rfl ?_
  refine qr_istore_n _ 8 rfl (by decide) rfl rfl ?_
  refine qr_iload_n 9 rfl rfl rfl ?_
  refine qr_if_gt 17 12 rfl rfl rfl (by decide) (fun h1 => ?_) (fun h => False.elim (by omega))
  refine qr_iconst 18 rfl rfl ?_
  refine qr_istore_n _ 19 rfl (by decide) rfl rfl ?_
  refine qr_iload_n 20 rfl rfl rfl ?_
  refine qr_ldcw 65536 23 rfl (by decide) rfl ?_
  refine qr_icmp_le 34 26 rfl rfl rfl (by decide) (by decide) (fun h2 => ?_) (fun h => False.elim (by omega))
  refine qr_iload_n 35 rfl rfl rfl ?_
  refine qr_sipush 38 rfl (by decide) rfl ?_
  refine qr_icmp_le 49 41 rfl rfl rfl (by decide) (by decide) (fun h3 => ?_) (fun h => False.elim (by omega))
  refine qr_iload_n 50 rfl rfl rfl ?_
  refine qr_bipush 52 rfl (by decide) rfl ?_
  refine qr_icmp_le 62 55 rfl rfl rfl (by decide) (by decide) (fun h4 => ?_) (fun h => False.elim (by omega))
  refine qr_iload_n 63 rfl rfl rfl ?_
  refine qr_iconst 64 rfl rfl ?_
  refine qr_icmp_le 74 67 rfl rfl rfl (by decide) (by decide) (fun h => False.elim (by omega)) (fun h5 => ?_)
  refine qr_iinc _ 70 rfl rfl (by decide) rfl rfl ?_
  refine qr_iload_n 71 rfl rfl rfl ?_
  refine qr_iconst 72 rfl rfl ?_
  refine qr_iushr 73 rfl rfl ?_
  refine qy_v 1 rfl ?_
  refine qr_istore_n _ 74 rfl (by decide) rfl rfl ?_
  refine qr_iload_n 75 rfl rfl rfl ?_
  refine qr_iload_n 76 rfl rfl rfl ?_
  refine qr_iconst 77 rfl rfl ?_
  refine qr_iushr 78 rfl rfl ?_
  refine qy_v 0 rfl ?_
  refine qr_iadd 79 rfl rfl ?_
  refine qr_retI rfl rfl (by decide) (by decide) ?_
  exact ⟨rfl, ((1 + 2) + 0), rfl, (by omega), by omega⟩

set_option maxHeartbeats 4000000 in
set_option maxRecDepth 20000 in
/-- java/lang/Integer.numberOfTrailingZeros -/
theorem sf_83t4 {L : Nat} {xs : Nat → Int} {vb : Bool} {d : Nat} {σ α : Nat → Nat → Int} {κ : Nat → Option Nat} {ρ : Nat}  (hI : qI σ α κ ρ)  : qm_T (qe L xs vb) (d + 1) 83 [.int (qz 16)] (qw σ α κ ρ) (fun r w' => w' = qw σ α κ ρ ∧ ∃ v : Int, r = some (.int (qz v)) ∧ (0 ≤ v ∧ v ≤ 31) ∧ v = 4) := by
  refine qr_start (d := d + 0) qv_e83 (Nat.le_of_ble_eq_true rfl) ?_
  show qr_W (qe L xs vb) (d + 0) qx_e83 _ (0, [(0, .int (qz 16))], [], _, 0, 0)
  refine qr_iload_n 1 rfl rfl rfl ?_
  refine qr_iconst 2 rfl rfl ?_
  refine qr_ixor 3 rfl rfl ?_
  refine qy_v (-17) rfl ?_
  refine qr_iload_n 4 rfl rfl rfl ?_
  refine qr_iconst 5 rfl rfl ?_
  refine qr_isub 6 rfl rfl ?_
  refine qy_v 15 rfl ?_
  refine qr_iand 7 rfl rfl ?_
  refine qy_v 15 rfl ?_
  refine qr_istore_n _ 8 rfl (by decide) rfl rfl ?_
  refine qr_iload_n 9 rfl rfl rfl ?_
  refine qr_if_gt 17 12 rfl rfl rfl (by decide) (fun h1 => ?_) (fun h => False.elim (by omega))
  refine qr_iconst 18 rfl rfl ?_
  refine qr_istore_n _ 19 rfl (by decide) rfl rfl ?_
  refine qr_iload_n 20 rfl rfl rfl ?_
  refine qr_ldcw 65536 23 rfl (by decide) rfl ?_
  refine qr_icmp_le 34 26 rfl rfl rfl (by decide) (by decide) (fun h2 => ?_) (fun h => False.elim (by omega))
  refine qr_iload_n 35 rfl rfl rfl ?_
  refine qr_sipush 38 rfl (by decide) rfl ?_
  refine qr_icmp_le 49 41 rfl rfl rfl (by decide) (by decide) (fun h3 => ?_) (fun h => False.elim (by omega))
  refine qr_iload_n 50 rfl rfl rfl ?_
  refine qr_bipush 52 rfl (by decide) rfl ?_
  refine qr_icmp_le 62 55 rfl rfl rfl (by decide) (by decide) (fun h4 => ?_) (fun h => False.elim (by omega))
  refine qr_iload_n 63 rfl rfl rfl ?_
  refine qr_iconst 64 rfl rfl ?_
  refine qr_icmp_le 74 67 rfl rfl rfl (by decide) (by decide) (fun h => False.elim (by omega)) (fun h5 => ?_)
  refine qr_iinc _ 70 rfl rfl (by decide) rfl rfl ?_
  refine qr_iload_n 71 rfl rfl rfl ?_
  refine qr_iconst 72 rfl rfl ?_
  refine qr_iushr 73 rfl rfl ?_
  refine qy_v 3 rfl ?_
  refine qr_istore_n _ 74 rfl (by decide) rfl rfl ?_
  refine qr_iload_n 75 rfl rfl rfl ?_
  refine qr_iload_n 76 rfl rfl rfl ?_
  refine qr_iconst 77 rfl rfl ?_
  refine qr_iushr 78 rfl rfl ?_
  refine qy_v 1 rfl ?_
  refine qr_iadd 79 rfl rfl ?_
  refine qr_retI rfl rfl (by decide) (by decide) ?_
  exact ⟨rfl, ((1 + 2) + 1), rfl, (by omega), by omega⟩

set_option maxHeartbeats 4000000 in
set_option maxRecDepth 20000 in
/-- java/lang/Integer.numberOfTrailingZeros -/
theorem sf_83t5 {L : Nat} {xs : Nat → Int} {vb : Bool} {d : Nat} {σ α : Nat → Nat → Int} {κ : Nat → Option Nat} {ρ : Nat}  (hI : qI σ α κ ρ)  : qm_T (qe L xs vb) (d + 1) 83 [.int (qz 32)] (qw σ α κ ρ) (fun r w' => w' = qw σ α κ ρ ∧ ∃ v : Int, r = some (.int (qz v)) ∧ (0 ≤ v ∧ v ≤ 31) ∧ v = 5) := by
  refine qr_start (d := d + 0) qv_e83 (Nat.le_of_ble_eq_true rfl) ?_
  show qr_W (qe L xs vb) (d + 0) qx_e83 _ (0, [(0, .int (qz 32))], [], _, 0, 0)
  refine qr_iload_n 1 rfl rfl rfl ?_
  refine qr_iconst 2 rfl rfl ?_
  refine qr_ixor 3 rfl rfl ?_
  refine qy_v (-33) rfl ?_
  refine qr_iload_n 4 rfl rfl rfl ?_
  refine qr_iconst 5 rfl rfl ?_
  refine qr_isub 6 rfl rfl ?_
  refine qy_v 31 rfl ?_
  refine qr_iand 7 rfl rfl ?_
  refine qy_v 31 rfl ?_
  refine qr_istore_n _ 8 rfl (by decide) rfl rfl ?_
  refine qr_iload_n 9 rfl rfl rfl ?_
  refine qr_if_gt 17 12 rfl rfl rfl (by decide) (fun h1 => ?_) (fun h => False.elim (by omega))
  refine qr_iconst 18 rfl rfl ?_
  refine qr_istore_n _ 19 rfl (by decide) rfl rfl ?_
  refine qr_iload_n 20 rfl rfl rfl ?_
  refine qr_ldcw 65536 23 rfl (by decide) rfl ?_
  refine qr_icmp_le 34 26 rfl rfl rfl (by decide) (by decide) (fun h2 => ?_) (fun h => False.elim (by omega))
  refine qr_iload_n 35 rfl rfl rfl ?_
  refine qr_sipush 38 rfl (by decide) rfl ?_
  refine qr_icmp_le 49 41 rfl rfl rfl (by decide) (by decide) (fun h3 => ?_) (fun h => False.elim (by omega))
  refine qr_iload_n 50 rfl rfl rfl ?_
  refine qr_bipush 52 rfl (by decide) rfl ?_
  refine qr_icmp_le 62 55 rfl rfl rfl (by decide) (by decide) (fun h => False.elim (by omega)) (fun h4 => ?_)
  refine qr_iinc _ 58 rfl rfl (by decide) rfl rfl ?_
  refine qr_iload_n 59 rfl rfl rfl ?_
  refine qr_iconst 60 rfl rfl ?_
  refine qr_iushr 61 rfl rfl ?_
  refine qy_v 1 rfl ?_
  refine qr_istore_n _ 62 rfl (by decide) rfl rfl ?_
  refine qr_iload_n 63 rfl rfl rfl ?_
  refine qr_iconst 64 rfl rfl ?_
  refine qr_icmp_le 74 67 rfl rfl rfl (by decide) (by decide) (fun h5 => ?_) (fun h => False.elim (by omega))
  refine qr_iload_n 75 rfl rfl rfl ?_
  refine qr_iload_n 76 rfl rfl rfl ?_
  refine qr_iconst 77 rfl rfl ?_
  refine qr_iushr 78 rfl rfl ?_
  refine qy_v 0 rfl ?_
  refine qr_iadd 79 rfl rfl ?_
  refine qr_retI rfl rfl (by decide) (by decide) ?_
  exact ⟨rfl, ((1 + 4) + 0), rfl, (by omega), by omega⟩

set_option maxHeartbeats 4000000 in
set_option maxRecDepth 20000 in
/-- java/lang/Integer.numberOfTrailingZeros -/
theorem sf_83t6 {L : Nat} {xs : Nat → Int} {vb : Bool} {d : Nat} {σ α : Nat → Nat → Int} {κ : Nat → Option Nat} {ρ : Nat}  (hI : qI σ α κ ρ)  : qm_T (qe L xs vb) (d + 1) 83 [.int (qz 64)] (qw σ α κ ρ) (fun r w' => w' = qw σ α κ ρ ∧ ∃ v : Int, r = some (.int (qz v)) ∧ (0 ≤ v ∧ v ≤ 31) ∧ v = 6) := by
  refine qr_start (d := d + 0) qv_e83 (Nat.le_of_ble_eq_true rfl) ?_
  show qr_W (qe L xs vb) (d + 0) qx_e83 _ (0, [(0, .int (qz 64))], [], _, 0, 0)
  refine qr_iload_n 1 rfl rfl rfl ?_
  refine qr_iconst 2 rfl rfl ?_
  refine qr_ixor 3 rfl rfl ?_
  refine qy_v (-65) rfl ?_
  refine qr_iload_n 4 rfl rfl rfl ?_
  refine qr_iconst 5 rfl rfl ?_
  refine qr_isub 6 rfl rfl ?_
  refine qy_v 63 rfl ?_
  refine qr_iand 7 rfl rfl ?_
  refine qy_v 63 rfl ?_
  refine qr_istore_n _ 8 rfl (by decide) rfl rfl ?_
  refine qr_iload_n 9 rfl rfl rfl ?_
  refine qr_if_gt 17 12 rfl rfl rfl (by decide) (fun h1 => ?_) (fun h => False.elim (by omega))
  refine qr_iconst 18 rfl rfl ?_
  refine qr_istore_n _ 19 rfl (by decide) rfl rfl ?_
  refine qr_iload_n 20 rfl rfl rfl ?_
  refine qr_ldcw 65536 23 rfl (by decide) rfl ?_
  refine qr_icmp_le 34 26 rfl rfl rfl (by decide) (by decide) (fun h2 => ?_) (fun h => False.elim (by omega))
  refine qr_iload_n 35 rfl rfl rfl ?_
  refine qr_sipush 38 rfl (by decide) rfl ?_
  refine qr_icmp_le 49 41 rfl rfl rfl (by decide) (by decide) (fun h3 => ?_) (fun h => False.elim (by omega))
  refine qr_iload_n 50 rfl rfl rfl ?_
  refine qr_bipush 52 rfl (by decide) rfl ?_
  refine qr_icmp_le 62 55 rfl rfl rfl (by decide) (by decide) (fun h => False.elim (by omega)) (fun h4 => ?_)
  refine qr_iinc _ 58 rfl rfl (by decide) rfl rfl ?_
  refine qr_iload_n 59 rfl rfl rfl ?_
  refine qr_iconst 60 rfl rfl ?_
  refine qr_iushr 61 rfl rfl ?_
  refine qy_v 3 rfl ?_
  refine qr_istore_n _ 62 rfl (by decide) rfl rfl ?_
  refine qr_iload_n 63 rfl rfl rfl ?_
  refine qr_iconst 64 rfl rfl ?_
  refine qr_icmp_le 74 67 rfl rfl rfl (by decide) (by decide) (fun h5 => ?_) (fun h => False.elim (by omega))
  refine qr_iload_n 75 rfl rfl rfl ?_
  refine qr_iload_n 76 rfl rfl rfl ?_
  refine qr_iconst 77 rfl rfl ?_
  refine qr_iushr 78 rfl rfl ?_
  refine qy_v 1 rfl ?_
  refine qr_iadd 79 rfl rfl ?_
  refine qr_retI rfl rfl (by decide) (by decide) ?_
  exact ⟨rfl, ((1 + 4) + 1), rfl, (by omega), by omega⟩

set_option maxHeartbeats 4000000 in
set_option maxRecDepth 20000 in
/-- java/lang/Integer.numberOfTrailingZeros -/
theorem sf_83t7 {L : Nat} {xs : Nat → Int} {vb : Bool} {d : Nat} {σ α : Nat → Nat → Int} {κ : Nat → Option Nat} {ρ : Nat}  (hI : qI σ α κ ρ)  : qm_T (qe L xs vb) (d + 1) 83 [.int (qz 128)] (qw σ α κ ρ) (fun r w' => w' = qw σ α κ ρ ∧ ∃ v : Int, r = some (.int (qz v)) ∧ (0 ≤ v ∧ v ≤ 31) ∧ v = 7) := by
  refine qr_start (d := d + 0) qv_e83 (Nat.le_of_ble_eq_true rfl) ?_
  show qr_W (qe L xs vb) (d + 0) qx_e83 _ (0, [(0, .int (qz 128))], [], _, 0, 0)
  refine qr_iload_n 1 rfl rfl rfl ?_
  refine qr_iconst 2 rfl rfl ?_
  refine qr_ixor 3 rfl rfl ?_
  refine qy_v (-129) rfl ?_
  refine qr_iload_n 4 rfl rfl rfl ?_
  refine qr_iconst 5 rfl rfl ?_
  refine qr_isub 6 rfl rfl ?_
  refine qy_v 127 rfl ?_
  refine qr_iand 7 rfl rfl ?_
  refine qy_v 127 rfl ?_
  refine qr_istore_n _ 8 rfl (by decide) rfl rfl ?_
  refine qr_iload_n 9 rfl rfl rfl ?_
  refine qr_if_gt 17 12 rfl rfl rfl (by decide) (fun h1 => ?_) (fun h => False.elim (by omega))
  refine qr_iconst 18 rfl rfl ?_
  refine qr_istore_n _ 19 rfl (by decide) rfl rfl ?_
  refine qr_iload_n 20 rfl rfl rfl ?_
  refine qr_ldcw 65536 23 rfl (by decide) rfl ?_
  refine qr_icmp_le 34 26 rfl rfl rfl (by decide) (by decide) (fun h2 => ?_) (fun h => False.elim (by omega))
  refine qr_iload_n 35 rfl rfl rfl ?_
  refine qr_sipush 38 rfl (by decide) rfl ?_
  refine qr_icmp_le 49 41 rfl rfl rfl (by decide) (by decide) (fun h3 => ?_) (fun h => False.elim (by omega))
  refine qr_iload_n 50 rfl rfl rfl ?_
  refine qr_bipush 52 rfl (by decide) rfl ?_
  refine qr_icmp_le 62 55 rfl rfl rfl (by decide) (by decide) (fun h => False.elim (by omega)) (fun h4 => ?_)
  refine qr_iinc _ 58 rfl rfl (by decide) rfl rfl ?_
  refine qr_iload_n 59 rfl rfl rfl ?_
  refine qr_iconst 60 rfl rfl ?_
  refine qr_iushr 61 rfl rfl ?_
  refine qy_v 7 rfl ?_
  refine qr_istore_n _ 62 rfl (by decide) rfl rfl ?_
  refine qr_iload_n 63 rfl rfl rfl ?_
  refine qr_iconst 64 rfl rfl ?_
  refine qr_icmp_le 74 67 rfl rfl rfl (by decide) (by decide) (fun h => False.elim (by omega)) (fun h5 => ?_)
  refine qr_iinc _ 70 rfl rfl (by decide) rfl rfl ?_
  refine qr_iload_n 71 rfl rfl rfl ?_
  refine qr_iconst 72 rfl rfl ?_
  refine qr_iushr 73 rfl rfl ?_
  refine qy_v 1 rfl ?_
  refine qr_istore_n _ 74 rfl (by decide) rfl rfl ?_
  refine qr_iload_n 75 rfl rfl rfl ?_
  refine qr_iload_n 76 rfl rfl rfl ?_
  refine qr_iconst 77 rfl rfl ?_
  refine qr_iushr 78 rfl rfl ?_
  refine qy_v 0 rfl ?_
  refine qr_iadd 79 rfl rfl ?_
  refine qr_retI rfl rfl (by decide) (by decide) ?_
  exact ⟨rfl, (((1 + 4) + 2) + 0), rfl, (by omega), by omega⟩

set_option maxHeartbeats 4000000 in
set_option maxRecDepth 20000 in
/-- java/lang/Integer.numberOfTrailingZeros -/
theorem sf_83t8 {L : Nat} {xs : Nat → Int} {vb : Bool} {d : Nat} {σ α : Nat → Nat → Int} {κ : Nat → Option Nat} {ρ : Nat}  (hI : qI σ α κ ρ)  : qm_T (qe L xs vb) (d + 1) 83 [.int (qz 256)] (qw σ α κ ρ) (fun r w' => w' = qw σ α κ ρ ∧ ∃ v : Int, r = some (.int (qz v)) ∧ (0 ≤ v ∧ v ≤ 31) ∧ v = 8) := by
  refine qr_start (d := d + 0) qv_e83 (Nat.le_of_ble_eq_true rfl) ?_
  show qr_W (qe L xs vb) (d + 0) qx_e83 _ (0, [(0, .int (qz 256))], [], _, 0, 0)
  refine qr_iload_n 1 rfl rfl rfl ?_
  refine qr_iconst 2 rfl rfl ?_
  refine qr_ixor 3 rfl rfl ?_
  refine qy_v (-257) rfl ?_
  refine qr_iload_n 4 rfl rfl rfl ?_
  refine qr_iconst 5 rfl rfl ?_
  refine qr_isub 6 rfl rfl ?_
  refine qy_v 255 rfl ?_
  refine qr_iand 7 rfl rfl ?_
  refine qy_v 255 rfl ?_
  refine qr_istore_n _ 8 rfl (by decide) rfl rfl ?_
  refine qr_iload_n 9 rfl rfl rfl ?_
  refine qr_if_gt 17 12 rfl rfl rfl (by decide) (fun h1 => ?_) (fun h => False.elim (by omega))
  refine qr_iconst 18 rfl rfl ?_
  refine qr_istore_n _ 19 rfl (by decide) rfl rfl ?_
  refine qr_iload_n 20 rfl rfl rfl ?_
  refine qr_ldcw 65536 23 rfl (by decide) rfl ?_
  refine qr_icmp_le 34 26 rfl rfl rfl (by decide) (by decide) (fun h2 => ?_) (fun h => False.elim (by omega))
  refine qr_iload_n 35 rfl rfl rfl ?_
  refine qr_sipush 38 rfl (by decide) rfl ?_
  refine qr_icmp_le 49 41 rfl rfl rfl (by decide) (by decide) (fun h3 => ?_) (fun h => False.elim (by omega))
  refine qr_iload_n 50 rfl rfl rfl ?_
  refine qr_bipush 52 rfl (by decide) rfl ?_
  refine qr_icmp_le 62 55 rfl rfl rfl (by decide) (by decide) (fun h => False.elim (by omega)) (fun h4 => ?_)
  refine qr_iinc _ 58 rfl rfl (by decide) rfl rfl ?_
  refine qr_iload_n 59 rfl rfl rfl ?_
  refine qr_iconst 60 rfl rfl ?_
  refine qr_iushr 61 rfl rfl ?_
  refine qy_v 15 rfl ?_
  refine qr_istore_n _ 62 rfl (by decide) rfl rfl ?_
  refine qr_iload_n 63 rfl rfl rfl ?_
  refine qr_iconst 64 rfl rfl ?_
  refine qr_icmp_le 74 67 rfl rfl rfl (by decide) (by decide) (fun h => False.elim (by omega)) (fun h5 => ?_)
  refine qr_iinc _ 70 rfl rfl (by decide) rfl rfl ?_
  refine qr_iload_n 71 rfl rfl rfl ?_
  refine qr_iconst 72 rfl rfl ?_
  refine qr_iushr 73 rfl rfl ?_
  refine qy_v 3 rfl ?_
  refine qr_istore_n _ 74 rfl (by decide) rfl rfl ?_
  refine qr_iload_n 75 rfl rfl rfl ?_
  refine qr_iload_n 76 rfl rfl rfl ?_
  refine qr_iconst 77 rfl rfl ?_
  refine qr_iushr 78 rfl rfl ?_
  refine qy_v 1 rfl ?_
  refine qr_iadd 79 rfl rfl ?_
  refine qr_retI rfl rfl (by decide) (by decide) ?_
  exact ⟨rfl, (((1 + 4) + 2) + 1), rfl, (by omega), by omega⟩

set_option maxHeartbeats 4000000 in
set_option maxRecDepth 20000 in
/-- java/lang/Integer.numberOfTrailingZeros -/
theorem sf_83t9 {L : Nat} {xs : Nat → Int} {vb : Bool} {d : Nat} {σ α : Nat → Nat → Int} {κ : Nat → Option Nat} {ρ : Nat}  (hI : qI σ α κ ρ)  : qm_T (qe L xs vb) (d + 1) 83 [.int (qz 512)] (qw σ α κ ρ) (fun r w' => w' = qw σ α κ ρ ∧ ∃ v : Int, r = some (.int (qz v)) ∧ (0 ≤ v ∧ v ≤ 31) ∧ v = 9) := by
  refine qr_start (d := d + 0) qv_e83 (Nat.le_of_ble_eq_true rfl) ?_
  show qr_W (qe L xs vb) (d + 0) qx_e83 _ (0, [(0, .int (qz 512))], [], _, 0, 0)
  refine qr_iload_n 1 rfl rfl rfl ?_
  refine qr_iconst 2 rfl rfl ?_
  refine qr_ixor 3 rfl rfl ?_
  refine qy_v (-513) rfl ?_
  refine qr_iload_n 4 rfl rfl rfl ?_
  refine qr_iconst 5 rfl rfl ?_
  refine qr_isub 6 rfl rfl ?_
  refine qy_v 511 rfl ?_
  refine qr_iand 7 rfl rfl ?_
  refine qy_v 511 rfl ?_
  refine qr_istore_n _ 8 rfl (by decide) rfl rfl ?_
  refine qr_iload_n 9 rfl rfl rfl ?_
  refine qr_if_gt 17 12 rfl rfl rfl (by decide) (fun h1 => ?_) (fun h => False.elim (by omega))
  refine qr_iconst 18 rfl rfl ?_
  refine qr_istore_n _ 19 rfl (by decide) rfl rfl ?_
  refine qr_iload_n 20 rfl rfl rfl ?_
  refine qr_ldcw 65536 23 rfl (by decide) rfl ?_
  refine qr_icmp_le 34 26 rfl rfl rfl (by decide) (by decide) (fun h2 => ?_) (fun h => False.elim (by omega))
  refine qr_iload_n 35 rfl rfl rfl ?_
  refine qr_sipush 38 rfl (by decide) rfl ?_
  refine qr_icmp_le 49 41 rfl rfl rfl (by decide) (by decide) (fun h => False.elim (by omega)) (fun h3 => ?_)
  refine qr_iinc _ 44 rfl rfl (by decide) rfl rfl ?_
  refine qr_iload_n 45 rfl rfl rfl ?_
  refine qr_bipush 47 rfl (by decide) rfl ?_
  refine qr_iushr 48 rfl rfl ?_
  refine qy_v 1 rfl ?_
  refine qr_istore_n _ 49 rfl (by decide) rfl rfl ?_
  refine qr_iload_n 50 rfl rfl rfl ?_
  refine qr_bipush 52 rfl (by decide) rfl ?_
  refine qr_icmp_le 62 55 rfl rfl rfl (by decide) (by decide) (fun h4 => ?_) (fun h => False.elim (by omega))
  refine qr_iload_n 63 rfl rfl rfl ?_
  refine qr_iconst 64 rfl rfl ?_
  refine qr_icmp_le 74 67 rfl rfl rfl (by decide) (by decide) (fun h5 => ?_) (fun h => False.elim (by omega))
  refine qr_iload_n 75 rfl rfl rfl ?_
  refine qr_iload_n 76 rfl rfl rfl ?_
  refine qr_iconst 77 rfl rfl ?_
  refine qr_iushr 78 rfl rfl ?_
  refine qy_v 0 rfl ?_
  refine qr_iadd 79 rfl rfl ?_
  refine qr_retI rfl rfl (by decide) (by decide) ?_
  exact ⟨rfl, ((1 + 8) + 0), rfl, (by omega), by omega⟩

set_option maxHeartbeats 4000000 in
set_option maxRecDepth 20000 in
/-- java/lang/Integer.numberOfTrailingZeros -/
theorem sf_83t10 {L : Nat} {xs : Nat → Int} {vb : Bool} {d : Nat} {σ α : Nat → Nat → Int} {κ : Nat → Option Nat} {ρ : Nat}  (hI : qI σ α κ ρ)  : qm_T (qe L xs vb) (d + 1) 83 [.int (qz 1024)] (qw σ α κ ρ) (fun r w' => w' = qw σ α κ ρ ∧ ∃ v : Int, r = some (.int (qz v)) ∧ (0 ≤ v ∧ v ≤ 31) ∧ v = 10) := by
  refine qr_start (d := d + 0) qv_e83 (Nat.le_of_ble_eq_true rfl) ?_
  show qr_W (qe L xs vb) (d + 0) qx_e83 _ (0, [(0, .int (qz 1024))], [], _, 0, 0)
  refine qr_iload_n 1 rfl rfl rfl ?_
  refine qr_iconst 2 rfl rfl ?_
  refine qr_ixor 3 rfl rfl ?_
  refine qy_v (-1025) rfl ?_
  refine qr_iload_n 4 rfl rfl rfl ?_
  refine qr_iconst 5 rfl rfl ?_
  refine qr_isub 6 rfl rfl ?_
  refine qy_v 1023 rfl ?_
  refine qr_iand 7 rfl rfl ?_
  refine qy_v 1023 rfl ?_
  refine qr_istore_n _ 8 rfl (by decide) rfl rfl ?_
  refine qr_iload_n 9 rfl rfl rfl ?_
  refine qr_if_gt 17 12 rfl rfl rfl (by decide) (fun h1 => ?_) (fun h => False.elim (by omega))
  refine qr_iconst 18 rfl rfl ?_
  refine qr_istore_n _ 19 rfl (by decide) rfl rfl ?_
  refine qr_iload_n 20 rfl rfl rfl ?_
  refine qr_ldcw 65536 23 rfl (by decide) rfl ?_
  refine qr_icmp_le 34 26 rfl rfl rfl (by decide) (by decide) (fun h2 => ?_) (fun h => False.elim (by omega))
  refine qr_iload_n 35 rfl rfl rfl ?_
  refine qr_sipush 38 rfl (by decide) rfl ?_
  refine qr_icmp_le 49 41 rfl rfl rfl (by decide) (by decide) (fun h => False.elim (by omega)) (fun h3 => ?_)
  refine qr_iinc _ 44 rfl rfl (by decide) rfl rfl ?_
  refine qr_iload_n 45 rfl rfl rfl ?_
  refine qr_bipush 47 rfl (by decide) rfl ?_
  refine qr_iushr 48 rfl rfl ?_
  refine qy_v 3 rfl ?_
  refine qr_istore_n _ 49 rfl (by decide) rfl rfl ?_
  refine qr_iload_n 50 rfl rfl rfl ?_
  refine qr_bipush 52 rfl (by decide) rfl ?_
  refine qr_icmp_le 62 55 rfl rfl rfl (by decide) (by decide) (fun h4 => ?_) (fun h => False.elim (by omega))
  refine qr_iload_n 63 rfl rfl rfl ?_
  refine qr_iconst 64 rfl rfl ?_
  refine qr_icmp_le 74 67 rfl rfl rfl (by decide) (by decide) (fun h5 => ?_) (fun h => False.elim (by omega))
  refine qr_iload_n 75 rfl rfl rfl ?_
  refine qr_iload_n 76 rfl rfl rfl ?_
  refine qr_iconst 77 rfl rfl ?_
  refine qr_iushr 78 rfl rfl ?_
  refine qy_v 1 rfl ?_
  refine qr_iadd 79 rfl rfl ?_
  refine qr_retI rfl rfl (by decide) (by decide) ?_
  exact ⟨rfl, ((1 + 8) + 1), rfl, (by omega), by omega⟩

set_option maxHeartbeats 4000000 in
set_option maxRecDepth 20000 in
/-- java/lang/Integer.numberOfTrailingZeros -/
theorem sf_83t11 {L : Nat} {xs : Nat → Int} {vb : Bool} {d : Nat} {σ α : Nat → Nat → Int} {κ : Nat → Option Nat} {ρ : Nat}  (hI : qI σ α κ ρ)  : qm_T (qe L xs vb) (d + 1) 83 [.int (qz 2048)] (qw σ α κ ρ) (fun r w' => w' = qw σ α κ ρ ∧ ∃ v : Int, r = some (.int (qz v)) ∧ (0 ≤ v ∧ v ≤ 31) ∧ v = 11) := by
  refine qr_start (d := d + 0) qv_e83 (Nat.le_of_ble_eq_true rfl) ?_
  show qr_W (qe L xs vb) (d + 0) qx_e83 _ (0, [(0, .int (qz 2048))], [], _, 0, 0)
  refine qr_iload_n 1 rfl rfl rfl ?_
  refine qr_iconst 2 rfl rfl ?_
  refine qr_ixor 3 rfl rfl ?_
  refine qy_v (-2049) rfl ?_
  refine qr_iload_n 4 rfl rfl rfl ?_
  refine qr_iconst 5 rfl rfl ?_
  refine qr_isub 6 rfl rfl ?_
  refine qy_v 2047 rfl ?_
  refine qr_iand 7 rfl rfl ?_
  refine qy_v 2047 rfl ?_
  refine qr_istore_n _ 8 rfl (by decide) rfl rfl ?_
  refine qr_iload_n 9 rfl rfl rfl ?_
  refine qr_if_gt 17 12 rfl rfl rfl (by decide) (fun h1 => ?_) (fun h => False.elim (by omega))
  refine qr_iconst 18 rfl rfl ?_
  refine qr_istore_n _ 19 rfl (by decide) rfl rfl ?_
  refine qr_iload_n 20 rfl rfl rfl ?_
  refine qr_ldcw 65536 23 rfl (by decide) rfl ?_
  refine qr_icmp_le 34 26 rfl rfl rfl (by decide) (by decide) (fun h2 => ?_) (fun h => False.elim (by omega))
  refine qr_iload_n 35 rfl rfl rfl ?_
  refine qr_sipush 38 rfl (by decide) rfl ?_
  refine qr_icmp_le 49 41 rfl rfl rfl (by decide) (by decide) (fun h => False.elim (by omega)) (fun h3 => ?_)
  refine qr_iinc _ 44 rfl rfl (by decide) rfl rfl ?_
  refine qr_iload_n 45 rfl rfl rfl ?_
  refine qr_bipush 47 rfl (by decide) rfl ?_
  refine qr_iushr 48 rfl rfl ?_
  refine qy_v 7 rfl ?_
  refine qr_istore_n _ 49 rfl (by decide) rfl rfl ?_
  refine qr_iload_n 50 rfl rfl rfl ?_
  refine qr_bipush 52 rfl (by decide) rfl ?_
  refine qr_icmp_le 62 55 rfl rfl rfl (by decide) (by decide) (fun h4 => ?_) (fun h => False.elim (by omega))
  refine qr_iload_n 63 rfl rfl rfl ?_
  refine qr_iconst 64 rfl rfl ?_
  refine qr_icmp_le 74 67 rfl rfl rfl (by decide) (by decide) (fun h => False.elim (by omega)) (fun h5 => ?_)
  refine qr_iinc _ 70 rfl rfl (by decide) rfl rfl ?_
  refine qr_iload_n 71 rfl rfl rfl ?_
  refine qr_iconst 72 rfl rfl ?_
  refine qr_iushr 73 rfl rfl ?_
  refine qy_v 1 rfl ?_
  refine qr_istore_n _ 74 rfl (by decide) rfl rfl ?_
  refine qr_iload_n 75 rfl rfl rfl ?_
  refine qr_iload_n 76 rfl rfl rfl ?_
  refine qr_iconst 77 rfl rfl ?_
  refine qr_iushr 78 rfl rfl ?_
  refine qy_v 0 rfl ?_
  refine qr_iadd 79 rfl rfl ?_
  refine qr_retI rfl rfl (by decide) (by decide) ?_
  exact ⟨rfl, (((1 + 8) + 2) + 0), rfl, (by omega), by omega⟩

set_option maxHeartbeats 4000000 in
set_option maxRecDepth 20000 in
/-- java/lang/Integer.numberOfTrailingZeros -/
theorem sf_83t12 {L : Nat} {xs : Nat → Int} {vb : Bool} {d : Nat} {σ α : Nat → Nat → Int} {κ : Nat → Option Nat} {ρ : Nat}  (hI : qI σ α κ ρ)  : qm_T (qe L xs vb) (d + 1) 83 [.int (qz 4096)] (qw σ α κ ρ) (fun r w' => w' = qw σ α κ ρ ∧ ∃ v : Int, r = some (.int (qz v)) ∧ (0 ≤ v ∧ v ≤ 31) ∧ v = 12) := by
  refine qr_start (d := d + 0) qv_e83 (Nat.le_of_ble_eq_true rfl) ?_
  show qr_W (qe L xs vb) (d + 0) qx_e83 _ (0, [(0, .int (qz 4096))], [], _, 0, 0)
  refine qr_iload_n 1 rfl rfl rfl ?_
  refine qr_iconst 2 rfl rfl ?_
  refine qr_ixor 3 rfl rfl ?_
  refine qy_v (-4097) rfl ?_
  refine qr_iload_n 4 rfl rfl rfl ?_
  refine qr_iconst 5 rfl rfl ?_
  refine qr_isub 6 rfl rfl ?_
  refine qy_v 4095 rfl ?_
  refine qr_iand 7 rfl rfl ?_
  refine qy_v 4095 rfl ?_
  refine qr_istore_n _ 8 rfl (by decide) rfl rfl ?_
  refine qr_iload_n 9 rfl rfl rfl ?_
  refine qr_if_gt 17 12 rfl rfl rfl (by decide) (fun h1 => ?_) (fun h => False.elim (by omega))
  refine qr_iconst 18 rfl rfl ?_
  refine qr_istore_n _ 19 rfl (by decide) rfl rfl ?_
  refine qr_iload_n 20 rfl rfl rfl ?_
  refine qr_ldcw 65536 23 rfl (by decide) rfl ?_
  refine qr_icmp_le 34 26 rfl rfl rfl (by decide) (by decide) (fun h2 => ?_) (fun h => False.elim (by omega))
  refine qr_iload_n 35 rfl rfl rfl ?_
  refine qr_sipush 38 rfl (by decide) rfl ?_
  refine qr_icmp_le 49 41 rfl rfl rfl (by decide) (by decide) (fun h => False.elim (by omega)) (fun h3 => ?_)
  refine qr_iinc _ 44 rfl rfl (by decide) rfl rfl ?_
  refine qr_iload_n 45 rfl rfl rfl ?_
  refine qr_bipush 47 rfl (by decide) rfl ?_
  refine qr_iushr 48 rfl rfl ?_
  refine qy_v 15 rfl ?_
  refine qr_istore_n _ 49 rfl (by decide) rfl rfl ?_
  refine qr_iload_n 50 rfl rfl rfl ?_
  refine qr_bipush 52 rfl (by decide) rfl ?_
  refine qr_icmp_le 62 55 rfl rfl rfl (by decide) (by decide) (fun h4 => ?_) (fun h => False.elim (by omega))
  refine qr_iload_n 63 rfl rfl rfl ?_
  refine qr_iconst 64 rfl rfl ?_
  refine qr_icmp_le 74 67 rfl rfl rfl (by decide) (by decide) (fun h => False.elim (by omega)) (fun h5 => ?_)
  refine qr_iinc _ 70 rfl rfl (by decide) rfl rfl ?_
  refine qr_iload_n 71 rfl rfl rfl ?_
  refine qr_iconst 72 rfl rfl ?_
  refine qr_iushr 73 rfl rfl ?_
  refine qy_v 3 rfl ?_
  refine qr_istore_n _ 74 rfl (by decide) rfl rfl ?_
  refine qr_iload_n 75 rfl rfl rfl ?_
  refine qr_iload_n 76 rfl rfl rfl ?_
  refine qr_iconst 77 rfl rfl ?_
  refine qr_iushr 78 rfl rfl ?_
  refine qy_v 1 rfl ?_
  refine qr_iadd 79 rfl rfl ?_
  refine qr_retI rfl rfl (by decide) (by decide) ?_
  exact ⟨rfl, (((1 + 8) + 2) + 1), rfl, (by omega), by omega⟩

set_option maxHeartbeats 4000000 in
set_option maxRecDepth 20000 in
/-- java/lang/Integer.numberOfTrailingZeros -/
theorem sf_83t13 {L : Nat} {xs : Nat → Int} {vb : Bool} {d : Nat} {σ α : Nat → Nat → Int} {κ : Nat → Option Nat} {ρ : Nat}  (hI : qI σ α κ ρ)  : qm_T (qe L xs vb) (d + 1) 83 [.int (qz 8192)] (qw σ α κ ρ) (fun r w' => w' = qw σ α κ ρ ∧ ∃ v : Int, r = some (.int (qz v)) ∧ (0 ≤ v ∧ v ≤ 31) ∧ v = 13) := by
  refine qr_start (d := d + 0) qv_e83 (Nat.le_of_ble_eq_true rfl) ?_
  show qr_W (qe L xs vb) (d + 0) qx_e83 _ (0, [(0, .int (qz 8192))], [], _, 0, 0)
  refine qr_iload_n 1 rfl rfl rfl ?_
  refine qr_iconst 2 rfl rfl ?_
  refine qr_ixor 3 rfl rfl ?_
  refine qy_v (-8193) rfl ?_
  refine qr_iload_n 4 rfl rfl rfl ?_
  refine qr_iconst 5 rfl rfl ?_
  refine qr_isub 6 rfl rfl ?_
  refine qy_v 8191 rfl ?_
  refine qr_iand 7 rfl rfl ?_
  refine qy_v 8191 rfl ?_
  refine qr_istore_n _ 8 rfl (by decide) rfl rfl ?_
  refine qr_iload_n 9 rfl rfl rfl ?_
  refine qr_if_gt 17 12 rfl rfl rfl (by decide) (fun h1 => ?_) (fun h => False.elim (by omega))
  refine qr_iconst 18 rfl rfl ?_
  refine qr_istore_n _ 19 rfl (by decide) rfl rfl ?_
  refine qr_iload_n 20 rfl rfl rfl ?_
  refine qr_ldcw 65536 23 rfl (by decide) rfl ?_
  refine qr_icmp_le 34 26 rfl rfl rfl (by decide) (by decide) (fun h2 => ?_) (fun h => False.elim (by omega))
  refine qr_iload_n 35 rfl rfl rfl ?_
  refine qr_sipush 38 rfl (by decide) rfl ?_
  refine qr_icmp_le 49 41 rfl rfl rfl (by decide) (by decide) (fun h => False.elim (by omega)) (fun h3 => ?_)
  refine qr_iinc _ 44 rfl rfl (by decide) rfl rfl ?_
  refine qr_iload_n 45 rfl rfl rfl ?_
  refine qr_bipush 47 rfl (by decide) rfl ?_
  refine qr_iushr 48 rfl rfl ?_
  refine qy_v 31 rfl ?_
  refine qr_istore_n _ 49 rfl (by decide) rfl rfl ?_
  refine qr_iload_n 50 rfl rfl rfl ?_
  refine qr_bipush 52 rfl (by decide) rfl ?_
  refine qr_icmp_le 62 55 rfl rfl rfl (by decide) (by decide) (fun h => False.elim (by omega)) (fun h4 => ?_)
  refine qr_iinc _ 58 rfl rfl (by decide) rfl rfl ?_
  refine qr_iload_n 59 rfl rfl rfl ?_
  refine qr_iconst 60 rfl rfl ?_
  refine qr_iushr 61 rfl rfl ?_
  refine qy_v 1 rfl ?_
  refine qr_istore_n _ 62 rfl (by decide) rfl rfl ?_
  refine qr_iload_n 63 rfl rfl rfl ?_
  refine qr_iconst 64 rfl rfl ?_
  refine qr_icmp_le 74 67 rfl rfl rfl (by decide) (by decide) (fun h5 => ?_) (fun h => False.elim (by omega))
  refine qr_iload_n 75 rfl rfl rfl ?_
  refine qr_iload_n 76 rfl rfl rfl ?_
  refine qr_iconst 77 rfl rfl ?_
  refine qr_iushr 78 rfl rfl ?_
  refine qy_v 0 rfl ?_
  refine qr_iadd 79 rfl rfl ?_
  refine qr_retI rfl rfl (by decide) (by decide) ?_
  exact ⟨rfl, (((1 + 8) + 4) + 0), rfl, (by omega), by omega⟩

set_option maxHeartbeats 4000000 in
set_option maxRecDepth 20000 in
/-- java/lang/Integer.numberOfTrailingZeros -/
theorem sf_83t14 {L : Nat} {xs : Nat → Int} {vb : Bool} {d : Nat} {σ α : Nat → Nat → Int} {κ : Nat → Option Nat} {ρ : Nat}  (hI : qI σ α κ ρ)  : qm_T (qe L xs vb) (d + 1) 83 [.int (qz 16384)] (qw σ α κ ρ) (fun r w' => w' = qw σ α κ ρ ∧ ∃ v : Int, r = some (.int (qz v)) ∧ (0 ≤ v ∧ v ≤ 31) ∧ v = 14) := by
  refine qr_start (d := d + 0) qv_e83 (Nat.le_of_ble_eq_true rfl) ?_
  show qr_W (qe L xs vb) (d + 0) qx_e83 _ (0, [(0, .int (qz 16384))], [], _, 0, 0)
  refine qr_iload_n 1 rfl rfl rfl ?_
  refine qr_iconst 2 rfl rfl ?_
  refine qr_ixor 3 rfl rfl ?_
  refine qy_v (-16385) rfl ?_
  refine qr_iload_n 4 rfl rfl rfl ?_
  refine qr_iconst 5 rfl rfl ?_
  refine qr_isub 6 rfl rfl ?_
  refine qy_v 16383 rfl ?_
  refine qr_iand 7 rfl rfl ?_
  refine qy_v 16383 rfl ?_
  refine qr_istore_n _ 8 rfl (by decide) rfl rfl ?_
  refine qr_iload_n 9 rfl rfl rfl ?_
  refine qr_if_gt 17 12 rfl rfl rfl (by decide) (fun h1 => ?_) (fun h => False.elim (by omega))
  refine qr_iconst 18 rfl rfl ?_
  refine qr_istore_n _ 19 rfl (by decide) rfl rfl ?_
  refine qr_iload_n 20 rfl rfl rfl ?_
  refine qr_ldcw 65536 23 rfl (by decide) rfl ?_
  refine qr_icmp_le 34 26 rfl rfl rfl (by decide) (by decide) (fun h2 => ?_) (fun h => False.elim (by omega))
  refine qr_iload_n 35 rfl rfl rfl ?_
  refine qr_sipush 38 rfl (by decide) rfl ?_
  refine qr_icmp_le 49 41 rfl rfl rfl (by decide) (by decide) (fun h => False.elim (by omega)) (fun h3 => ?_)
  refine qr_iinc _ 44 rfl rfl (by decide) rfl rfl ?_
  refine qr_iload_n 45 rfl rfl rfl ?_
  refine qr_bipush 47 rfl (by decide) rfl ?_
  refine qr_iushr 48 rfl rfl ?_
  refine qy_v 63 rfl ?_
  refine qr_istore_n _ 49 rfl (by decide) rfl rfl ?_
  refine qr_iload_n 50 rfl rfl rfl ?_
  refine qr_bipush 52 rfl (by decide) rfl ?_
  refine qr_icmp_le 62 55 rfl rfl rfl (by decide) (by decide) (fun h => False.elim (by omega)) (fun h4 => ?_)
  refine qr_iinc _ 58 rfl rfl (by decide) rfl rfl ?_
  refine qr_iload_n 59 rfl rfl rfl ?_
  refine qr_iconst 60 rfl rfl ?_
  refine qr_iushr 61 rfl rfl ?_
  refine qy_v 3 rfl ?_
  refine qr_istore_n _ 62 rfl (by decide) rfl rfl ?_
  refine qr_iload_n 63 rfl rfl rfl ?_
  refine qr_iconst 64 rfl rfl ?_
  refine qr_icmp_le 74 67 rfl rfl rfl (by decide) (by decide) (fun h5 => ?_) (fun h => False.elim (by omega))
  refine qr_iload_n 75 rfl rfl rfl ?_
  refine qr_iload_n 76 rfl rfl rfl ?_
  refine qr_iconst 77 rfl rfl ?_
  refine qr_iushr 78 rfl rfl ?_
  refine qy_v 1 rfl ?_
  refine qr_iadd 79 rfl rfl ?_
  refine qr_retI rfl rfl (by decide) (by decide) ?_
  exact ⟨rfl, (((1 + 8) + 4) + 1), rfl, (by omega), by omega⟩

set_option maxHeartbeats 4000000 in
set_option maxRecDepth 20000 in
/-- java/lang/Integer.numberOfTrailingZeros -/
theorem sf_83t15 {L : Nat} {xs : Nat → Int} {vb : Bool} {d : Nat} {σ α : Nat → Nat → Int} {κ : Nat → Option Nat} {ρ : Nat}  (hI : qI σ α κ ρ)  : qm_T (qe L xs vb) (d + 1) 83 [.int (qz 32768)] (qw σ α κ ρ) (fun r w' => w' = qw σ α κ ρ ∧ ∃ v : Int, r = some (.int (qz v)) ∧ (0 ≤ v ∧ v ≤ 31) ∧ v = 15) := by
  refine qr_start (d := d + 0) qv_e83 (Nat.le_of_ble_eq_true rfl) ?_
  show qr_W (qe L xs vb) (d + 0) qx_e83 _ (0, [(0, .int (qz 32768))], [], _, 0, 0)
  refine qr_iload_n 1 rfl rfl rfl ?_
  refine qr_iconst 2 rfl rfl ?_
  refine qr_ixor 3 rfl rfl ?_
  refine qy_v (-32769) rfl ?_
  refine qr_iload_n 4 rfl rfl rfl ?_
  refine qr_iconst 5 rfl rfl ?_
  refine qr_isub 6 rfl rfl ?_
  refine qy_v 32767 rfl ?_
  refine qr_iand 7 rfl rfl ?_
  refine qy_v 32767 rfl ?_
  refine qr_istore_n _ 8 rfl (by decide) rfl rfl ?_
  refine qr_iload_n 9 rfl rfl rfl ?_
  refine qr_if_gt 17 12 rfl rfl rfl (by decide) (fun h1 => ?_) (fun h => False.elim (by omega))
  refine qr_iconst 18 rfl rfl ?_
  refine qr_istore_n _ 19 rfl (by decide) rfl rfl ?_
  refine qr_iload_n 20 rfl rfl rfl ?_
  refine qr_ldcw 65536 23 rfl (by decide) rfl ?_
  refine qr_icmp_le 34 26 rfl rfl rfl (by decide) (by decide) (fun h2 => ?_) (fun h => False.elim (by omega))
  refine qr_iload_n 35 rfl rfl rfl ?_
  refine qr_sipush 38 rfl (by decide) rfl ?_
  refine qr_icmp_le 49 41 rfl rfl rfl (by decide) (by decide) (fun h => False.elim (by omega)) (fun h3 => ?_)
  refine qr_iinc _ 44 rfl rfl (by decide) rfl rfl ?_
  refine qr_iload_n 45 rfl rfl rfl ?_
  refine qr_bipush 47 rfl (by decide) rfl ?_
  refine qr_iushr 48 rfl rfl ?_
  refine qy_v 127 rfl ?_
  refine qr_istore_n _ 49 rfl (by decide) rfl rfl ?_
  refine qr_iload_n 50 rfl rfl rfl ?_
  refine qr_bipush 52 rfl (by decide) rfl ?_
  refine qr_icmp_le 62 55 rfl rfl rfl (by decide) (by decide) (fun h => False.elim (by omega)) (fun h4 => ?_)
  refine qr_iinc _ 58 rfl rfl (by decide) rfl rfl ?_
  refine qr_iload_n 59 rfl rfl rfl ?_
  refine qr_iconst 60 rfl rfl ?_
  refine qr_iushr 61 rfl rfl ?_
  refine qy_v 7 rfl ?_
  refine qr_istore_n _ 62 rfl (by decide) rfl rfl ?_
  refine qr_iload_n 63 rfl rfl rfl ?_
  refine qr_iconst 64 rfl rfl ?_
  refine qr_icmp_le 74 67 rfl rfl rfl (by decide) (by decide) (fun h => False.elim (by omega)) (fun h5 => ?_)
  refine qr_iinc _ 70 rfl rfl (by decide) rfl rfl ?_
  refine qr_iload_n 71 rfl rfl rfl ?_
  refine qr_iconst 72 rfl rfl ?_
  refine qr_iushr 73 rfl rfl ?_
  refine qy_v 1 rfl ?_
  refine qr_istore_n _ 74 rfl (by decide) rfl rfl ?_
  refine qr_iload_n 75 rfl rfl rfl ?_
  refine qr_iload_n 76 rfl rfl rfl ?_
  refine qr_iconst 77 rfl rfl ?_
  refine qr_iushr 78 rfl rfl ?_
  refine qy_v 0 rfl ?_
  refine qr_iadd 79 rfl rfl ?_
  refine qr_retI rfl rfl (by decide) (by decide) ?_
  exact ⟨rfl, ((((1 + 8) + 4) + 2) + 0), rfl, (by omega), by omega⟩

set_option maxHeartbeats 4000000 in
set_option maxRecDepth 20000 in
/-- java/lang/Integer.numberOfTrailingZeros -/
theorem sf_83t16 {L : Nat} {xs : Nat → Int} {vb : Bool} {d : Nat} {σ α : Nat → Nat → Int} {κ : Nat → Option Nat} {ρ : Nat}  (hI : qI σ α κ ρ)  : qm_T (qe L xs vb) (d + 1) 83 [.int (qz 65536)] (qw σ α κ ρ) (fun r w' => w' = qw σ α κ ρ ∧ ∃ v : Int, r = some (.int (qz v)) ∧ (0 ≤ v ∧ v ≤ 31) ∧ v = 16) := by
  refine qr_start (d := d + 0) qv_e83 (Nat.le_of_ble_eq_true rfl) ?_
  show qr_W (qe L xs vb) (d + 0) qx_e83 _ (0, [(0, .int (qz 65536))], [], _, 0, 0)
  refine qr_iload_n 1 rfl rfl rfl ?_
  refine qr_iconst 2 rfl rfl ?_
  refine qr_ixor 3 rfl rfl ?_
  refine qy_v (-65537) rfl ?_
  refine qr_iload_n 4 rfl rfl rfl ?_
  refine qr_iconst 5 rfl rfl ?_
  refine qr_isub 6 rfl rfl ?_
  refine qy_v 65535 rfl ?_
  refine qr_iand 7 rfl rfl ?_
  refine qy_v 65535 rfl ?_
  refine qr_istore_n _ 8 rfl (by decide) rfl rfl ?_
  refine qr_iload_n 9 rfl rfl rfl ?_
  refine qr_if_gt 17 12 rfl rfl rfl (by decide) (fun h1 => ?_) (fun h => False.elim (by omega))
  refine qr_iconst 18 rfl rfl ?_
  refine qr_istore_n _ 19 rfl (by decide) rfl rfl ?_
  refine qr_iload_n 20 rfl rfl rfl ?_
  refine qr_ldcw 65536 23 rfl (by decide) rfl ?_
  refine qr_icmp_le 34 26 rfl rfl rfl (by decide) (by decide) (fun h2 => ?_) (fun h => False.elim (by omega))
  refine qr_iload_n 35 rfl rfl rfl ?_
  refine qr_sipush 38 rfl (by decide) rfl ?_
  refine qr_icmp_le 49 41 rfl rfl rfl (by decide) (by decide) (fun h => False.elim (by omega)) (fun h3 => ?_)
  refine qr_iinc _ 44 rfl rfl (by decide) rfl rfl ?_
  refine qr_iload_n 45 rfl rfl rfl ?_
  refine qr_bipush 47 rfl (by decide) rfl ?_
  refine qr_iushr 48 rfl rfl ?_
  refine qy_v 255 rfl ?_
  refine qr_istore_n _ 49 rfl (by decide) rfl rfl ?_
  refine qr_iload_n 50 rfl rfl rfl ?_
  refine qr_bipush 52 rfl (by decide) rfl ?_
  refine qr_icmp_le 62 55 rfl rfl rfl (by decide) (by decide) (fun h => False.elim (by omega)) (fun h4 => ?_)
  refine qr_iinc _ 58 rfl rfl (by decide) rfl rfl ?_
  refine qr_iload_n 59 rfl rfl rfl ?_
  refine qr_iconst 60 rfl rfl ?_
  refine qr_iushr 61 rfl rfl ?_
  refine qy_v 15 rfl ?_
  refine qr_istore_n _ 62 rfl (by decide) rfl rfl ?_
  refine qr_iload_n 63 rfl rfl rfl ?_
  refine qr_iconst 64 rfl rfl ?_
  refine qr_icmp_le 74 67 rfl rfl rfl (by decide) (by decide) (fun h => False.elim (by omega)) (fun h5 => ?_)
  refine qr_iinc _ 70 rfl rfl (by decide) rfl rfl ?_
  refine qr_iload_n 71 rfl rfl rfl ?_
  refine qr_iconst 72 rfl rfl ?_
  refine qr_iushr 73 rfl rfl ?_
  refine qy_v 3 rfl ?_
  refine qr_istore_n _ 74 rfl (by decide) rfl rfl ?_
  refine qr_iload_n 75 rfl rfl rfl ?_
  refine qr_iload_n 76 rfl rfl rfl ?_
  refine qr_iconst 77 rfl rfl ?_
  refine qr_iushr 78 rfl rfl ?_
  refine qy_v 1 rfl ?_
  refine qr_iadd 79 rfl rfl ?_
  refine qr_retI rfl rfl (by decide) (by decide) ?_
  exact ⟨rfl, ((((1 + 8) + 4) + 2) + 1), rfl, (by omega), by omega⟩

set_option maxHeartbeats 4000000 in
set_option maxRecDepth 20000 in
/-- java/lang/Integer.numberOfTrailingZeros -/
theorem sf_83t17 {L : Nat} {xs : Nat → Int} {vb : Bool} {d : Nat} {σ α : Nat → Nat → Int} {κ : Nat → Option Nat} {ρ : Nat}  (hI : qI σ α κ ρ)  : qm_T (qe L xs vb) (d + 1) 83 [.int (qz 131072)] (qw σ α κ ρ) (fun r w' => w' = qw σ α κ ρ ∧ ∃ v : Int, r = some (.int (qz v)) ∧ (0 ≤ v ∧ v ≤ 31) ∧ v = 17) := by
  refine qr_start (d := d + 0) qv_e83 (Nat.le_of_ble_eq_true rfl) ?_
  show qr_W (qe L xs vb) (d + 0) qx_e83 _ (0, [(0, .int (qz 131072))], [], _, 0, 0)
  refine qr_iload_n 1 rfl rfl rfl ?_
  refine qr_iconst 2 rfl rfl ?_
  refine qr_ixor 3 rfl rfl ?_
  refine qy_v (-131073) rfl ?_
  refine qr_iload_n 4 rfl rfl rfl ?_
  refine qr_iconst 5 rfl rfl ?_
  refine qr_isub 6 rfl rfl ?_
  refine qy_v 131071 rfl ?_
  refine qr_iand 7 rfl rfl ?_
  refine qy_v 131071 rfl ?_
  refine qr_istore_n _ 8 rfl (by decide) rfl rfl ?_
  refine qr_iload_n 9 rfl rfl rfl ?_
  refine qr_if_gt 17 12 rfl rfl rfl (by decide) (fun h1 => ?_) (fun h => False.elim (by omega))
  refine qr_iconst 18 rfl rfl ?_
  refine qr_istore_n _ 19 rfl (by decide) rfl rfl ?_
  refine qr_iload_n 20 rfl rfl rfl ?_
  refine qr_ldcw 65536 23 rfl (by decide) rfl ?_
  refine qr_icmp_le 34 26 rfl rfl rfl (by decide) (by decide) (fun h => False.elim (by omega)) (fun h2 => ?_)
  refine qr_iinc _ 29 rfl rfl (by decide) rfl rfl ?_
  refine qr_iload_n 30 rfl rfl rfl ?_
  refine qr_bipush 32 rfl (by decide) rfl ?_
  refine qr_iushr 33 rfl rfl ?_
  refine qy_v 1 rfl ?_
  refine qr_istore_n _ 34 rfl (by decide) rfl rfl ?_
  refine qr_iload_n 35 rfl rfl rfl ?_
  refine qr_sipush 38 rfl (by decide) rfl ?_
  refine qr_icmp_le 49 41 rfl rfl rfl (by decide) (by decide) (fun h3 => ?_) (fun h => False.elim (by omega))
  refine qr_iload_n 50 rfl rfl rfl ?_
  refine qr_bipush 52 rfl (by decide) rfl ?_
  refine qr_icmp_le 62 55 rfl rfl rfl (by decide) (by decide) (fun h4 => ?_) (fun h => False.elim (by omega))
  refine qr_iload_n 63 rfl rfl rfl ?_
  refine qr_iconst 64 rfl rfl ?_
  refine qr_icmp_le 74 67 rfl rfl rfl (by decide) (by decide) (fun h5 => ?_) (fun h => False.elim (by omega))
  refine qr_iload_n 75 rfl rfl rfl ?_
  refine qr_iload_n 76 rfl rfl rfl ?_
  refine qr_iconst 77 rfl rfl ?_
  refine qr_iushr 78 rfl rfl ?_
  refine qy_v 0 rfl ?_
  refine qr_iadd 79 rfl rfl ?_
  refine qr_retI rfl rfl (by decide) (by decide) ?_
  exact ⟨rfl, ((1 + 16) + 0), rfl, (by omega), by omega⟩

set_option maxHeartbeats 4000000 in
set_option maxRecDepth 20000 in
/-- java/lang/Integer.numberOfTrailingZeros -/
theorem sf_83t18 {L : Nat} {xs : Nat → Int} {vb : Bool} {d : Nat} {σ α : Nat → Nat → Int} {κ : Nat → Option Nat} {ρ : Nat}  (hI : qI σ α κ ρ)  : qm_T (qe L xs vb) (d + 1) 83 [.int (qz 262144)] (qw σ α κ ρ) (fun r w' => w' = qw σ α κ ρ ∧ ∃ v : Int, r = some (.int (qz v)) ∧ (0 ≤ v ∧ v ≤ 31) ∧ v = 18) := by
  refine qr_start (d := d + 0) qv_e83 (Nat.le_of_ble_eq_true rfl) ?_
  show qr_W (qe L xs vb) (d + 0) qx_e83 _ (0, [(0, .int (qz 262144))], [], _, 0, 0)
  refine qr_iload_n 1 rfl rfl rfl ?_
  refine qr_iconst 2 rfl rfl ?_
  refine qr_ixor 3 rfl rfl ?_
  refine qy_v (-262145) rfl ?_
  refine qr_iload_n 4 rfl rfl rfl ?_
  refine qr_iconst 5 rfl rfl ?_
  refine qr_isub 6 rfl rfl ?_
  refine qy_v 262143 rfl ?_
  refine qr_iand 7 rfl rfl ?_
  refine qy_v 262143 rfl ?_
  refine qr_istore_n _ 8 rfl (by decide) rfl rfl ?_
  refine qr_iload_n 9 rfl rfl rfl ?_
  refine qr_if_gt 17 12 rfl rfl rfl (by decide) (fun h1 => ?_) (fun h => False.elim (by omega))
  refine qr_iconst 18 rfl rfl ?_
  refine qr_istore_n _ 19 rfl (by decide) rfl rfl ?_
  refine qr_iload_n 20 rfl rfl rfl ?_
  refine qr_ldcw 65536 23 rfl (by decide) rfl ?_
  refine qr_icmp_le 34 26 rfl rfl rfl (by decide) (by decide) (fun h => False.elim (by omega)) (fun h2 => ?_)
  refine qr_iinc _ 29 rfl rfl (by decide) rfl rfl ?_
  refine qr_iload_n 30 rfl rfl rfl ?_
  refine qr_bipush 32 rfl (by decide) rfl ?_
  refine qr_iushr 33 rfl rfl ?_
  refine qy_v 3 rfl ?_
  refine qr_istore_n _ 34 rfl (by decide) rfl rfl ?_
  refine qr_iload_n 35 rfl rfl rfl ?_
  refine qr_sipush 38 rfl (by decide) rfl ?_
  refine qr_icmp_le 49 41 rfl rfl rfl (by decide) (by decide) (fun h3 => ?_) (fun h => False.elim (by omega))
  refine qr_iload_n 50 rfl rfl rfl ?_
  refine qr_bipush 52 rfl (by decide) rfl ?_
  refine qr_icmp_le 62 55 rfl rfl rfl (by decide) (by decide) (fun h4 => ?_) (fun h => False.elim (by omega))
  refine qr_iload_n 63 rfl rfl rfl ?_
  refine qr_iconst 64 rfl rfl ?_
  refine qr_icmp_le 74 67 rfl rfl rfl (by decide) (by decide) (fun h5 => ?_) (fun h => False.elim (by omega))
  refine qr_iload_n 75 rfl rfl rfl ?_
  refine qr_iload_n 76 rfl rfl rfl ?_
  refine qr_iconst 77 rfl rfl ?_
  refine qr_iushr 78 rfl rfl ?_
  refine qy_v 1 rfl ?_
  refine qr_iadd 79 rfl rfl ?_
  refine qr_retI rfl rfl (by decide) (by decide) ?_
  exact ⟨rfl, ((1 + 16) + 1), rfl, (by omega), by omega⟩

set_option maxHeartbeats 4000000 in
set_option maxRecDepth 20000 in
/-- java/lang/Integer.numberOfTrailingZeros -/
theorem sf_83t19 {L : Nat} {xs : Nat → Int} {vb : Bool} {d : Nat} {σ α : Nat → Nat → Int} {κ : Nat → Option Nat} {ρ : Nat}  (hI : qI σ α κ ρ)  : qm_T (qe L xs vb) (d + 1) 83 [.int (qz 524288)] (qw σ α κ ρ) (fun r w' => w' = qw σ α κ ρ ∧ ∃ v : Int, r = some (.int (qz v)) ∧ (0 ≤ v ∧ v ≤ 31) ∧ v = 19) := by
  refine qr_start (d := d + 0) qv_e83 (Nat.le_of_ble_eq_true rfl) ?_
  show qr_W (qe L xs vb) (d + 0) qx_e83 _ (0, [(0, .int (qz 524288))], [], _, 0, 0)
  refine qr_iload_n 1 rfl rfl rfl ?_
  refine qr_iconst 2 rfl rfl ?_
  refine qr_ixor 3 rfl rfl ?_
  refine qy_v (-524289) rfl ?_
  refine qr_iload_n 4 rfl rfl rfl ?_
  refine qr_iconst 5 rfl rfl ?_
  refine qr_isub 6 rfl rfl ?_
  refine qy_v 524287 rfl ?_
  refine qr_iand 7 rfl rfl ?_
  refine qy_v 524287 rfl ?_
  refine qr_istore_n _ 8 rfl (by decide) rfl rfl ?_
  refine qr_iload_n 9 rfl rfl rfl ?_
  refine qr_if_gt 17 12 rfl rfl rfl (by decide) (fun h1 => ?_) (fun h => False.elim (by omega))
  refine qr_iconst 18 rfl rfl ?_
  refine qr_istore_n _ 19 rfl (by decide) rfl rfl ?_
  refine qr_iload_n 20 rfl rfl rfl ?_
  refine qr_ldcw 65536 23 rfl (by decide) rfl ?_
  refine qr_icmp_le 34 26 rfl rfl rfl (by decide) (by decide) (fun h => False.elim (by omega)) (fun h2 => ?_)
  refine qr_iinc _ 29 rfl rfl (by decide) rfl rfl ?_
  refine qr_iload_n 30 rfl rfl rfl ?_
  refine qr_bipush 32 rfl (by decide) rfl ?_
  refine qr_iushr 33 rfl rfl ?_
  refine qy_v 7 rfl ?_
  refine qr_istore_n _ 34 rfl (by decide) rfl rfl ?_
  refine qr_iload_n 35 rfl rfl rfl ?_
  refine qr_sipush 38 rfl (by decide) rfl ?_
  refine qr_icmp_le 49 41 rfl rfl rfl (by decide) (by decide) (fun h3 => ?_) (fun h => False.elim (by omega))
  refine qr_iload_n 50 rfl rfl rfl ?_
  refine qr_bipush 52 rfl (by decide) rfl ?_
  refine qr_icmp_le 62 55 rfl rfl rfl (by decide) (by decide) (fun h4 => ?_) (fun h => False.elim (by omega))
  refine qr_iload_n 63 rfl rfl rfl ?_
  refine qr_iconst 64 rfl rfl ?_
  refine qr_icmp_le 74 67 rfl rfl rfl (by decide) (by decide) (fun h => False.elim (by omega)) (fun h5 => ?_)
  refine qr_iinc _ 70 rfl rfl (by decide) rfl rfl ?_
  refine qr_iload_n 71 rfl rfl rfl ?_
  refine qr_iconst 72 rfl rfl ?_
  refine qr_iushr 73 rfl rfl ?_
  refine qy_v 1 rfl ?_
  refine qr_istore_n _ 74 rfl (by decide) rfl rfl ?_
  refine qr_iload_n 75 rfl rfl rfl ?_
  refine qr_iload_n 76 rfl rfl rfl ?_
  refine qr_iconst 77 rfl rfl ?_
  refine qr_iushr 78 rfl rfl ?_
  refine qy_v 0 rfl ?_
  refine qr_iadd 79 rfl rfl ?_
  refine qr_retI rfl rfl (by decide) (by decide) ?_
  exact ⟨rfl, (((1 + 16) + 2) + 0), rfl, (by omega), by omega⟩

set_option maxHeartbeats 4000000 in
set_option maxRecDepth 20000 in
/-- java/lang/Integer.numberOfTrailingZeros -/
theorem sf_83t20 {L : Nat} {xs : Nat → Int} {vb : Bool} {d : Nat} {σ α : Nat → Nat → Int} {κ : Nat → Option Nat} {ρ : Nat}  (hI : qI σ α κ ρ)  : qm_T (qe L xs vb) (d + 1) 83 [.int (qz 1048576)] (qw σ α κ ρ) (fun r w' => w' = qw σ α κ ρ ∧ ∃ v : Int, r = some (.int (qz v)) ∧ (0 ≤ v ∧ v ≤ 31) ∧ v = 20) := by
  refine qr_start (d := d + 0) qv_e83 (Nat.le_of_ble_eq_true rfl) ?_
  show qr_W (qe L xs vb) (d + 0) qx_e83 _ (0, [(0, .int (qz 1048576))], [], _, 0, 0)
  refine qr_iload_n 1 rfl rfl rfl ?_
  refine qr_iconst 2 rfl rfl ?_
  refine qr_ixor 3 rfl rfl ?_
  refine qy_v (-1048577) rfl ?_
  refine qr_iload_n 4 rfl rfl rfl ?_
  refine qr_iconst 5 rfl rfl ?_
  refine qr_isub 6 rfl rfl ?_
  refine qy_v 1048575 rfl ?_
  refine qr_iand 7 rfl rfl ?_
  refine qy_v 1048575 rfl ?_
  refine qr_istore_n _ 8 rfl (by decide) rfl rfl ?_
  refine qr_iload_n 9 rfl rfl rfl ?_
  refine qr_if_gt 17 12 rfl rfl rfl (by decide) (fun h1 => ?_) (fun h => False.elim (by omega))
  refine qr_iconst 18 rfl rfl ?_
  refine qr_istore_n _ 19 rfl (by decide) rfl rfl ?_
  refine qr_iload_n 20 rfl rfl rfl ?_
  refine qr_ldcw 65536 23 rfl (by decide) rfl ?_
  refine qr_icmp_le 34 26 rfl rfl rfl (by decide) (by decide) (fun h => False.elim (by omega)) (fun h2 => ?_)
  refine qr_iinc _ 29 rfl rfl (by decide) rfl rfl ?_
  refine qr_iload_n 30 rfl rfl rfl ?_
  refine qr_bipush 32 rfl (by decide) rfl ?_
  refine qr_iushr 33 rfl rfl ?_
  refine qy_v 15 rfl ?_
  refine qr_istore_n _ 34 rfl (by decide) rfl rfl ?_
  refine qr_iload_n 35 rfl rfl rfl ?_
  refine qr_sipush 38 rfl (by decide) rfl ?_
  refine qr_icmp_le 49 41 rfl rfl rfl (by decide) (by decide) (fun h3 => ?_) (fun h => False.elim (by omega))
  refine qr_iload_n 50 rfl rfl rfl ?_
  refine qr_bipush 52 rfl (by decide) rfl ?_
  refine qr_icmp_le 62 55 rfl rfl rfl (by decide) (by decide) (fun h4 => ?_) (fun h => False.elim (by omega))
  refine qr_iload_n 63 rfl rfl rfl ?_
  refine qr_iconst 64 rfl rfl ?_
  refine qr_icmp_le 74 67 rfl rfl rfl (by decide) (by decide) (fun h => False.elim (by omega)) (fun h5 => ?_)
  refine qr_iinc _ 70 rfl rfl (by decide) rfl rfl ?_
  refine qr_iload_n 71 rfl rfl rfl ?_
  refine qr_iconst 72 rfl rfl ?_
  refine qr_iushr 73 rfl rfl ?_
  refine qy_v 3 rfl ?_
  refine qr_istore_n _ 74 rfl (by decide) rfl rfl ?_
  refine qr_iload_n 75 rfl rfl rfl ?_
  refine qr_iload_n 76 rfl rfl rfl ?_
  refine qr_iconst 77 rfl rfl ?_
  refine qr_iushr 78 rfl rfl ?_
  refine qy_v 1 rfl ?_
  refine qr_iadd 79 rfl rfl ?_
  refine qr_retI rfl rfl (by decide) (by decide) ?_
  exact ⟨rfl, (((1 + 16) + 2) + 1), rfl, (by omega), by omega⟩

set_option maxHeartbeats 4000000 in
set_option maxRecDepth 20000 in
/-- java/lang/Integer.numberOfTrailingZeros -/
theorem sf_83t21 {L : Nat} {xs : Nat → Int} {vb : Bool} {d : Nat} {σ α : Nat → Nat → Int} {κ : Nat → Option Nat} {ρ : Nat}  (hI : qI σ α κ ρ)  : qm_T (qe L xs vb) (d + 1) 83 [.int (qz 2097152)] (qw σ α κ ρ) (fun r w' => w' = qw σ α κ ρ ∧ ∃ v : Int, r = some (.int (qz v)) ∧ (0 ≤ v ∧ v ≤ 31) ∧ v = 21) := by
  refine qr_start (d := d + 0) qv_e83 (Nat.le_of_ble_eq_true rfl) ?_
  show qr_W (qe L xs vb) (d + 0) qx_e83 _ (0, [(0, .int (qz 2097152))], [], _, 0, 0)
  refine qr_iload_n 1 rfl rfl rfl ?_
  refine qr_iconst 2 rfl rfl ?_
  refine qr_ixor 3 rfl rfl ?_
  refine qy_v (-2097153) rfl ?_
  refine qr_iload_n 4 rfl rfl rfl ?_
  refine qr_iconst 5 rfl rfl ?_
  refine qr_isub 6 rfl rfl ?_
  refine qy_v 2097151 rfl ?_
  refine qr_iand 7 rfl rfl ?_
  refine qy_v 2097151 rfl ?_
  refine qr_istore_n _ 8 rfl (by decide) rfl rfl ?_
  refine qr_iload_n 9 rfl rfl rfl ?_
  refine qr_if_gt 17 12 rfl rfl rfl (by decide) (fun h1 => ?_) (fun h => False.elim (by omega))
  refine qr_iconst 18 rfl rfl ?_
  refine qr_istore_n _ 19 rfl (by decide) rfl rfl ?_
  refine qr_iload_n 20 rfl rfl rfl ?_
  refine qr_ldcw 65536 23 rfl (by decide) rfl ?_
  refine qr_icmp_le 34 26 rfl rfl rfl (by decide) (by decide) (fun h => False.elim (by omega)) (fun h2 => ?_)
  refine qr_iinc _ 29 rfl rfl (by decide) rfl rfl ?_
  refine qr_iload_n 30 rfl rfl rfl ?_
  refine qr_bipush 32 rfl (by decide) rfl ?_
  refine qr_iushr 33 rfl rfl ?_
  refine qy_v 31 rfl ?_
  refine qr_istore_n _ 34 rfl (by decide) rfl rfl ?_
  refine qr_iload_n 35 rfl rfl rfl ?_
  refine qr_sipush 38 rfl (by decide) rfl ?_
  refine qr_icmp_le 49 41 rfl rfl rfl (by decide) (by decide) (fun h3 => ?_) (fun h => False.elim (by omega))
  refine qr_iload_n 50 rfl rfl rfl ?_
  refine qr_bipush 52 rfl (by decide) rfl ?_
  refine qr_icmp_le 62 55 rfl rfl rfl (by decide) (by decide) (fun h => False.elim (by omega)) (fun h4 => ?_)
  refine qr_iinc _ 58 rfl rfl (by decide) rfl rfl ?_
  refine qr_iload_n 59 rfl rfl rfl ?_
  refine qr_iconst 60 rfl rfl ?_
  refine qr_iushr 61 rfl rfl ?_
  refine qy_v 1 rfl ?_
  refine qr_istore_n _ 62 rfl (by decide) rfl rfl ?_
  refine qr_iload_n 63 rfl rfl rfl ?_
  refine qr_iconst 64 rfl rfl ?_
  refine qr_icmp_le 74 67 rfl rfl rfl (by decide) (by decide) (fun h5 => ?_) (fun h => False.elim (by omega))
  refine qr_iload_n 75 rfl rfl rfl ?_
  refine qr_iload_n 76 rfl rfl rfl ?_
  refine qr_iconst 77 rfl rfl ?_
  refine qr_iushr 78 rfl rfl ?_
  refine qy_v 0 rfl ?_
  refine qr_iadd 79 rfl rfl ?_
  refine qr_retI rfl rfl (by decide) (by decide) ?_
  exact ⟨rfl, (((1 + 16) + 4) + 0), rfl, (by omega), by omega⟩

set_option maxHeartbeats 4000000 in
set_option maxRecDepth 20000 in
/-- java/lang/Integer.numberOfTrailingZeros -/
theorem sf_83t22 {L : Nat} {xs : Nat → Int} {vb : Bool} {d : Nat} {σ α : Nat → Nat → Int} {κ : Nat → Option Nat} {ρ : Nat}  (hI : qI σ α κ ρ)  : qm_T (qe L xs vb) (d + 1) 83 [.int (qz 4194304)] (qw σ α κ ρ) (fun r w' => w' = qw σ α κ ρ ∧ ∃ v : Int, r = some (.int (qz v)) ∧ (0 ≤ v ∧ v ≤ 31) ∧ v = 22) := by
  refine qr_start (d := d + 0) qv_e83 (Nat.le_of_ble_eq_true rfl) ?_
  show qr_W (qe L xs vb) (d + 0) qx_e83 _ (0, [(0, .int (qz 4194304))], [], _, 0, 0)
  refine qr_iload_n 1 rfl rfl rfl ?_
  refine qr_iconst 2 rfl rfl ?_
  refine qr_ixor 3 rfl rfl ?_
  refine qy_v (-4194305) rfl ?_
  refine qr_iload_n 4 rfl rfl rfl ?_
  refine qr_iconst 5 rfl rfl ?_
  refine qr_isub 6 rfl rfl ?_
  refine qy_v 4194303 rfl ?_
  refine qr_iand 7 rfl rfl ?_
  refine qy_v 4194303 rfl ?_
  refine qr_istore_n _ 8 rfl (by decide) rfl rfl ?_
  refine qr_iload_n 9 rfl rfl rfl ?_
  refine qr_if_gt 17 12 rfl rfl rfl (by decide) (fun h1 => ?_) (fun h => False.elim (by omega))
  refine qr_iconst 18 rfl rfl ?_
  refine qr_istore_n _ 19 rfl (by decide) rfl rfl ?_
  refine qr_iload_n 20 rfl rfl rfl ?_
  refine qr_ldcw 65536 23 rfl (by decide) rfl ?_
  refine qr_icmp_le 34 26 rfl rfl rfl (by decide) (by decide) (fun h => False.elim (by omega)) (fun h2 => ?_)
  refine qr_iinc _ 29 rfl rfl (by decide) rfl rfl ?_
  refine qr_iload_n 30 rfl rfl rfl ?_
  refine qr_bipush 32 rfl (by decide) rfl ?_
  refine qr_iushr 33 rfl rfl ?_
  refine qy_v 63 rfl ?_
  refine qr_istore_n _ 34 rfl (by decide) rfl rfl ?_
  refine qr_iload_n 35 rfl rfl rfl ?_
  refine qr_sipush 38 rfl (by decide) rfl ?_
  refine qr_icmp_le 49 41 rfl rfl rfl (by decide) (by decide) (fun h3 => ?_) (fun h => False.elim (by omega))
  refine qr_iload_n 50 rfl rfl rfl ?_
  refine qr_bipush 52 rfl (by decide) rfl ?_
  refine qr_icmp_le 62 55 rfl rfl rfl (by decide) (by decide) (fun h => False.elim (by omega)) (fun h4 => ?_)
  refine qr_iinc _ 58 rfl rfl (by decide) rfl rfl ?_
  refine qr_iload_n 59 rfl rfl rfl ?_
  refine qr_iconst 60 rfl rfl ?_
  refine qr_iushr 61 rfl rfl ?_
  refine qy_v 3 rfl ?_
  refine qr_istore_n _ 62 rfl (by decide) rfl rfl ?_
  refine qr_iload_n 63 rfl rfl rfl ?_
  refine qr_iconst 64 rfl rfl ?_
  refine qr_icmp_le 74 67 rfl rfl rfl (by decide) (by decide) (fun h5 => ?_) (fun h => False.elim (by omega))
  refine qr_iload_n 75 rfl rfl rfl ?_
  refine qr_iload_n 76 rfl rfl rfl ?_
  refine qr_iconst 77 rfl rfl ?_
  refine qr_iushr 78 rfl rfl ?_
  refine qy_v 1 rfl ?_
  refine qr_iadd 79 rfl rfl ?_
  refine qr_retI rfl rfl (by decide) (by decide) ?_
  exact ⟨rfl, (((1 + 16) + 4) + 1), rfl, (by omega), by omega⟩

set_option maxHeartbeats 4000000 in
set_option maxRecDepth 20000 in
/-- java/lang/Integer.numberOfTrailingZeros -/
theorem sf_83t23 {L : Nat} {xs : Nat → Int} {vb : Bool} {d : Nat} {σ α : Nat → Nat → Int} {κ : Nat → Option Nat} {ρ : Nat}  (hI : qI σ α κ ρ)  : qm_T (qe L xs vb) (d + 1) 83 [.int (qz 8388608)] (qw σ α κ ρ) (fun r w' => w' = qw σ α κ ρ ∧ ∃ v : Int, r = some (.int (qz v)) ∧ (0 ≤ v ∧ v ≤ 31) ∧ v = 23) := by
  refine qr_start (d := d + 0) qv_e83 (Nat.le_of_ble_eq_true rfl) ?_
  show qr_W (qe L xs vb) (d + 0) qx_e83 _ (0, [(0, .int (qz 8388608))], [], _, 0, 0)
  refine qr_iload_n 1 rfl rfl rfl ?_
  refine qr_iconst 2 rfl rfl ?_
  refine qr_ixor 3 rfl rfl ?_
  refine qy_v (-8388609) rfl ?_
  refine qr_iload_n 4 rfl rfl rfl ?_
  refine qr_iconst 5 rfl rfl ?_
  refine qr_isub 6 rfl rfl ?_
  refine qy_v 8388607 rfl ?_
  refine qr_iand 7 rfl rfl ?_
  refine qy_v 8388607 rfl ?_
  refine qr_istore_n _ 8 rfl (by decide) rfl rfl ?_
  refine qr_iload_n 9 rfl rfl rfl ?_
  refine qr_if_gt 17 12 rfl rfl rfl (by decide) (fun h1 => ?_) (fun h => False.elim (by omega))
  refine qr_iconst 18 rfl rfl ?_
  refine qr_istore_n _ 19 rfl (by decide) rfl rfl ?_
  refine qr_iload_n 20 rfl rfl rfl ?_
  refine qr_ldcw 65536 23 rfl (by decide) rfl ?_
  refine qr_icmp_le 34 26 rfl rfl rfl (by decide) (by decide) (fun h => False.elim (by omega)) (fun h2 => ?_)
  refine qr_iinc _ 29 rfl rfl (by decide) rfl rfl ?_
  refine qr_iload_n 30 rfl rfl rfl ?_
  refine qr_bipush 32 rfl (by decide) rfl ?_
  refine qr_iushr 33 rfl rfl ?_
  refine qy_v 127 rfl ?_
  refine qr_istore_n _ 34 rfl (by decide) rfl rfl ?_
  refine qr_iload_n 35 rfl rfl rfl ?_
  refine qr_sipush 38 rfl (by decide) rfl ?_
  refine qr_icmp_le 49 41 rfl rfl rfl (by decide) (by decide) (fun h3 => ?_) (fun h => False.elim (by omega))
  refine qr_iload_n 50 rfl rfl rfl ?_
  refine qr_bipush 52 rfl (by decide) rfl ?_
  refine qr_icmp_le 62 55 rfl rfl rfl (by decide) (by decide) (fun h => False.elim (by omega)) (fun h4 => ?_)
  refine qr_iinc _ 58 rfl rfl (by decide) rfl rfl ?_
  refine qr_iload_n 59 rfl rfl rfl ?_
  refine qr_iconst 60 rfl rfl ?_
  refine qr_iushr 61 rfl rfl ?_
  refine qy_v 7 rfl ?_
  refine qr_istore_n _ 62 rfl (by decide) rfl rfl ?_
  refine qr_iload_n 63 rfl rfl rfl ?_
  refine qr_iconst 64 rfl rfl ?_
  refine qr_icmp_le 74 67 rfl rfl rfl (by decide) (by decide) (fun h => False.elim (by omega)) (fun h5 => ?_)
  refine qr_iinc _ 70 rfl rfl (by decide) rfl rfl ?_
  refine qr_iload_n 71 rfl rfl rfl ?_
  refine qr_iconst 72 rfl rfl ?_
  refine qr_iushr 73 rfl rfl ?_
  refine qy_v 1 rfl ?_
  refine qr_istore_n _ 74 rfl (by decide) rfl rfl ?_
  refine qr_iload_n 75 rfl rfl rfl ?_
  refine qr_iload_n 76 rfl rfl rfl ?_
  refine qr_iconst 77 rfl rfl ?_
  refine qr_iushr 78 rfl rfl ?_
  refine qy_v 0 rfl ?_
  refine qr_iadd 79 rfl rfl ?_
  refine qr_retI rfl rfl (by decide) (by decide) ?_
  exact ⟨rfl, ((((1 + 16) + 4) + 2) + 0), rfl, (by omega), by omega⟩

set_option maxHeartbeats 4000000 in
set_option maxRecDepth 20000 in
/-- java/lang/Integer.numberOfTrailingZeros -/
theorem sf_83t24 {L : Nat} {xs : Nat → Int} {vb : Bool} {d : Nat} {σ α : Nat → Nat → Int} {κ : Nat → Option Nat} {ρ : Nat}  (hI : qI σ α κ ρ)  : qm_T (qe L xs vb) (d + 1) 83 [.int (qz 16777216)] (qw σ α κ ρ) (fun r w' => w' = qw σ α κ ρ ∧ ∃ v : Int, r = some (.int (qz v)) ∧ (0 ≤ v ∧ v ≤ 31) ∧ v = 24) := by
  refine qr_start (d := d + 0) qv_e83 (Nat.le_of_ble_eq_true rfl) ?_
  show qr_W (qe L xs vb) (d + 0) qx_e83 _ (0, [(0, .int (qz 16777216))], [], _, 0, 0)
  refine qr_iload_n 1 rfl rfl rfl ?_
  refine qr_iconst 2 rfl rfl ?_
  refine qr_ixor 3 rfl rfl ?_
  refine qy_v (-16777217) rfl ?_
  refine qr_iload_n 4 rfl rfl rfl ?_
  refine qr_iconst 5 rfl rfl ?_
  refine qr_isub 6 rfl rfl ?_
  refine qy_v 16777215 rfl ?_
  refine qr_iand 7 rfl rfl ?_
  refine qy_v 16777215 rfl ?_
  refine qr_istore_n _ 8 rfl (by decide) rfl rfl ?_
  refine qr_iload_n 9 rfl rfl rfl ?_
  refine qr_if_gt 17 12 rfl rfl rfl (by decide) (fun h1 => ?_) (fun h => False.elim (by omega))
  refine qr_iconst 18 rfl rfl ?_
  refine qr_istore_n _ 19 rfl (by decide) rfl rfl ?_
  refine qr_iload_n 20 rfl rfl rfl ?_
  refine qr_ldcw 65536 23 rfl (by decide) rfl ?_
  refine qr_icmp_le 34 26 rfl rfl rfl (by decide) (by decide) (fun h => False.elim (by omega)) (fun h2 => ?_)
  refine qr_iinc _ 29 rfl rfl (by decide) rfl rfl ?_
  refine qr_iload_n 30 rfl rfl rfl ?_
  refine qr_bipush 32 rfl (by decide) rfl ?_
  refine qr_iushr 33 rfl rfl ?_
  refine qy_v 255 rfl ?_
  refine qr_istore_n _ 34 rfl (by decide) rfl rfl ?_
  refine qr_iload_n 35 rfl rfl rfl ?_
  refine qr_sipush 38 rfl (by decide) rfl ?_
  refine qr_icmp_le 49 41 rfl rfl rfl (by decide) (by decide) (fun h3 => ?_) (fun h => False.elim (by omega))
  refine qr_iload_n 50 rfl rfl rfl ?_
  refine qr_bipush 52 rfl (by decide) rfl ?_
  refine qr_icmp_le 62 55 rfl rfl rfl (by decide) (by decide) (fun h => False.elim (by omega)) (fun h4 => ?_)
  refine qr_iinc _ 58 rfl rfl (by decide) rfl rfl ?_
  refine qr_iload_n 59 rfl rfl rfl ?_
  refine qr_iconst 60 rfl rfl ?_
  refine qr_iushr 61 rfl rfl ?_
  refine qy_v 15 rfl ?_
  refine qr_istore_n _ 62 rfl (by decide) rfl rfl ?_
  refine qr_iload_n 63 rfl rfl rfl ?_
  refine qr_iconst 64 rfl rfl ?_
  refine qr_icmp_le 74 67 rfl rfl rfl (by decide) (by decide) (fun h => False.elim (by omega)) (fun h5 => ?_)
  refine qr_iinc _ 70 rfl rfl (by decide) rfl rfl ?_
  refine qr_iload_n 71 rfl rfl rfl ?_
  refine qr_iconst 72 rfl rfl ?_
  refine qr_iushr 73 rfl rfl ?_
  refine qy_v 3 rfl ?_
  refine qr_istore_n _ 74 rfl (by decide) rfl rfl ?_
  refine qr_iload_n 75 rfl rfl rfl ?_
  refine qr_iload_n 76 rfl rfl rfl ?_
  refine qr_iconst 77 rfl rfl ?_
  refine qr_iushr 78 rfl rfl ?_
  refine qy_v 1 rfl ?_
  refine qr_iadd 79 rfl rfl ?_
  refine qr_retI rfl rfl (by decide) (by decide) ?_
  exact ⟨rfl, ((((1 + 16) + 4) + 2) + 1), rfl, (by omega), by omega⟩

set_option maxHeartbeats 4000000 in
set_option maxRecDepth 20000 in
/-- java/lang/Integer.numberOfTrailingZeros -/
theorem sf_83t25 {L : Nat} {xs : Nat → Int} {vb : Bool} {d : Nat} {σ α : Nat → Nat → Int} {κ : Nat → Option Nat} {ρ : Nat}  (hI : qI σ α κ ρ)  : qm_T (qe L xs vb) (d + 1) 83 [.int (qz 33554432)] (qw σ α κ ρ) (fun r w' => w' = qw σ α κ ρ ∧ ∃ v : Int, r = some (.int (qz v)) ∧ (0 ≤ v ∧ v ≤ 31) ∧ v = 25) := by
  refine qr_start (d := d + 0) qv_e83 (Nat.le_of_ble_eq_true rfl) ?_
  show qr_W (qe L xs vb) (d + 0) qx_e83 _ (0, [(0, .int (qz 33554432))], [], _, 0, 0)
  refine qr_iload_n 1 rfl rfl rfl ?_
  refine qr_iconst 2 rfl rfl ?_
  refine qr_ixor 3 rfl rfl ?_
  refine qy_v (-33554433) rfl ?_
  refine qr_iload_n 4 rfl rfl rfl ?_
  refine qr_iconst 5 rfl rfl ?_
  refine qr_isub 6 rfl rfl ?_
  refine qy_v 33554431 rfl ?_
  refine qr_iand 7 rfl rfl ?_
  refine qy_v 33554431 rfl ?_
  refine qr_istore_n _ 8 rfl (by decide) rfl rfl ?_
  refine qr_iload_n 9 rfl rfl rfl ?_
  refine qr_if_gt 17 12 rfl rfl rfl (by decide) (fun h1 => ?_) (fun h => False.elim (by omega))
  refine qr_iconst 18 rfl rfl ?_
  refine qr_istore_n _ 19 rfl (by decide) rfl rfl ?_
  refine qr_iload_n 20 rfl rfl rfl ?_
  refine qr_ldcw 65536 23 rfl (by decide) rfl ?_
  refine qr_icmp_le 34 26 rfl rfl rfl (by decide) (by decide) (fun h => False.elim (by omega)) (fun h2 => ?_)
  refine qr_iinc _ 29 rfl rfl (by decide) rfl rfl ?_
  refine qr_iload_n 30 rfl rfl rfl ?_
  refine qr_bipush 32 rfl (by decide) rfl ?_
  refine qr_iushr 33 rfl rfl ?_
  refine qy_v 511 rfl ?_
  refine qr_istore_n _ 34 rfl (by decide) rfl rfl ?_
  refine qr_iload_n 35 rfl rfl rfl ?_
  refine qr_sipush 38 rfl (by decide) rfl ?_
  refine qr_icmp_le 49 41 rfl rfl rfl (by decide) (by decide) (fun h => False.elim (by omega)) (fun h3 => ?_)
  refine qr_iinc _ 44 rfl rfl (by decide) rfl rfl ?_
  refine qr_iload_n 45 rfl rfl rfl ?_
  refine qr_bipush 47 rfl (by decide) rfl ?_
  refine qr_iushr 48 rfl rfl ?_
  refine qy_v 1 rfl ?_
  refine qr_istore_n _ 49 rfl (by decide) rfl rfl ?_
  refine qr_iload_n 50 rfl rfl rfl ?_
  refine qr_bipush 52 rfl (by decide) rfl ?_
  refine qr_icmp_le 62 55 rfl rfl rfl (by decide) (by decide) (fun h4 => ?_) (fun h => False.elim (by omega))
  refine qr_iload_n 63 rfl rfl rfl ?_
  refine qr_iconst 64 rfl rfl ?_
  refine qr_icmp_le 74 67 rfl rfl rfl (by decide) (by decide) (fun h5 => ?_) (fun h => False.elim (by omega))
  refine qr_iload_n 75 rfl rfl rfl ?_
  refine qr_iload_n 76 rfl rfl rfl ?_
  refine qr_iconst 77 rfl rfl ?_
  refine qr_iushr 78 rfl rfl ?_
  refine qy_v 0 rfl ?_
  refine qr_iadd 79 rfl rfl ?_
  refine qr_retI rfl rfl (by decide) (by decide) ?_
  exact ⟨rfl, (((1 + 16) + 8) + 0), rfl, (by omega), by omega⟩

set_option maxHeartbeats 4000000 in
set_option maxRecDepth 20000 in
/-- java/lang/Integer.numberOfTrailingZeros -/
theorem sf_83t26 {L : Nat} {xs : Nat → Int} {vb : Bool} {d : Nat} {σ α : Nat → Nat → Int} {κ : Nat → Option Nat} {ρ : Nat}  (hI : qI σ α κ ρ)  : qm_T (qe L xs vb) (d + 1) 83 [.int (qz 67108864)] (qw σ α κ ρ) (fun r w' => w' = qw σ α κ ρ ∧ ∃ v : Int, r = some (.int (qz v)) ∧ (0 ≤ v ∧ v ≤ 31) ∧ v = 26) := by
  refine qr_start (d := d + 0) qv_e83 (Nat.le_of_ble_eq_true rfl) ?_
  show qr_W (qe L xs vb) (d + 0) qx_e83 _ (0, [(0, .int (qz 67108864))], [], _, 0, 0)
  refine qr_iload_n 1 rfl rfl rfl ?_
  refine qr_iconst 2 rfl rfl ?_
  refine qr_ixor 3 rfl rfl ?_
  refine qy_v (-67108865) rfl ?_
  refine qr_iload_n 4 rfl rfl rfl ?_
  refine qr_iconst 5 rfl rfl ?_
  refine qr_isub 6 rfl rfl ?_
  refine qy_v 67108863 rfl ?_
  refine qr_iand 7 rfl rfl ?_
  refine qy_v 67108863 rfl ?_
  refine qr_istore_n _ 8 rfl (by decide) rfl rfl ?_
  refine qr_iload_n 9 rfl rfl rfl ?_
  refine qr_if_gt 17 12 rfl rfl rfl (by decide) (fun h1 => ?_) (fun h => False.elim (by omega))
  refine qr_iconst 18 rfl rfl ?_
  refine qr_istore_n _ 19 rfl (by decide) rfl rfl ?_
  refine qr_iload_n 20 rfl rfl rfl ?_
  refine qr_ldcw 65536 23 rfl (by decide) rfl ?_
  refine qr_icmp_le 34 26 rfl rfl rfl (by decide) (by decide) (fun h => False.elim (by omega)) (fun h2 => ?_)
  refine qr_iinc _ 29 rfl rfl (by decide) rfl rfl ?_
  refine qr_iload_n 30 rfl rfl rfl ?_
  refine qr_bipush 32 rfl (by decide) rfl ?_
  refine qr_iushr 33 rfl rfl ?_
  refine qy_v 1023 rfl ?_
  refine qr_istore_n _ 34 rfl (by decide) rfl rfl ?_
  refine qr_iload_n 35 rfl rfl rfl ?_
  refine qr_sipush 38 rfl (by decide) rfl ?_
  refine qr_icmp_le 49 41 rfl rfl rfl (by decide) (by decide) (fun h => False.elim (by omega)) (fun h3 => ?_)
  refine qr_iinc _ 44 rfl rfl (by decide) rfl rfl ?_
  refine qr_iload_n 45 rfl rfl rfl ?_
  refine qr_bipush 47 rfl (by decide) rfl ?_
  refine qr_iushr 48 rfl rfl ?_
  refine qy_v 3 rfl ?_
  refine qr_istore_n _ 49 rfl (by decide) rfl rfl ?_
  refine qr_iload_n 50 rfl rfl rfl ?_
  refine qr_bipush 52 rfl (by decide) rfl ?_
  refine qr_icmp_le 62 55 rfl rfl rfl (by decide) (by decide) (fun h4 => ?_) (fun h => False.elim (by omega))
  refine qr_iload_n 63 rfl rfl rfl ?_
  refine qr_iconst 64 rfl rfl ?_
  refine qr_icmp_le 74 67 rfl rfl rfl (by decide) (by decide) (fun h5 => ?_) (fun h => False.elim (by omega))
  refine qr_iload_n 75 rfl rfl rfl ?_
  refine qr_iload_n 76 rfl rfl rfl ?_
  refine qr_iconst 77 rfl rfl ?_
  refine qr_iushr 78 rfl rfl ?_
  refine qy_v 1 rfl ?_
  refine qr_iadd 79 rfl rfl ?_
  refine qr_retI rfl rfl (by decide) (by decide) ?_
  exact ⟨rfl, (((1 + 16) + 8) + 1), rfl, (by omega), by omega⟩

set_option maxHeartbeats 4000000 in
set_option maxRecDepth 20000 in
/-- java/lang/Integer.numberOfTrailingZeros -/
theorem sf_83t27 {L : Nat} {xs : Nat → Int} {vb : Bool} {d : Nat} {σ α : Nat → Nat → Int} {κ : Nat → Option Nat} {ρ : Nat}  (hI : qI σ α κ ρ)  : qm_T (qe L xs vb) (d + 1) 83 [.int (qz 134217728)] (qw σ α κ ρ) (fun r w' => w' = qw σ α κ ρ ∧ ∃ v : Int, r = some (.int (qz v)) ∧ (0 ≤ v ∧ v ≤ 31) ∧ v = 27) := by
  refine qr_start (d := d + 0) qv_e83 (Nat.le_of_ble_eq_true rfl) ?_
  show qr_W (qe L xs vb) (d + 0) qx_e83 _ (0, [(0, .int (qz 134217728))], [], _, 0, 0)
  refine qr_iload_n 1 rfl rfl rfl ?_
  refine qr_iconst 2 rfl rfl ?_
  refine qr_ixor 3 rfl rfl ?_
  refine qy_v (-134217729) rfl ?_
  refine qr_iload_n 4 rfl rfl rfl ?_
  refine qr_iconst 5 rfl rfl ?_
  refine qr_isub 6 rfl rfl ?_
  refine qy_v 134217727 rfl ?_
  refine qr_iand 7 rfl rfl ?_
  refine qy_v 134217727 rfl ?_
  refine qr_istore_n _ 8 rfl (by decide) rfl rfl ?_
  refine qr_iload_n 9 rfl rfl rfl ?_
  refine qr_if_gt 17 12 rfl rfl rfl (by decide) (fun h1 => ?_) (fun h => False.elim (by omega))
  refine qr_iconst 18 rfl rfl ?_
  refine qr_istore_n _ 19 rfl (by decide) rfl rfl ?_
  refine qr_iload_n 20 rfl rfl rfl ?_
  refine qr_ldcw 65536 23 rfl (by decide) rfl ?_
  refine qr_icmp_le 34 26 rfl rfl rfl (by decide) (by decide) (fun h => False.elim (by omega)) (fun h2 => ?_)
  refine qr_iinc _ 29 rfl rfl (by decide) rfl rfl ?_
  refine qr_iload_n 30 rfl rfl rfl ?_
  refine qr_bipush 32 rfl (by decide) rfl ?_
  refine qr_iushr 33 rfl rfl ?_
  refine qy_v 2047 rfl ?_
  refine qr_istore_n _ 34 rfl (by decide) rfl rfl ?_
  refine qr_iload_n 35 rfl rfl rfl ?_
  refine qr_sipush 38 rfl (by decide) rfl ?_
  refine qr_icmp_le 49 41 rfl rfl rfl (by decide) (by decide) (fun h => False.elim (by omega)) (fun h3 => ?_)
  refine qr_iinc _ 44 rfl rfl (by decide) rfl rfl ?_
  refine qr_iload_n 45 rfl rfl rfl ?_
  refine qr_bipush 47 rfl (by decide) rfl ?_
  refine qr_iushr 48 rfl rfl ?_
  refine qy_v 7 rfl ?_
  refine qr_istore_n _ 49 rfl (by decide) rfl rfl ?_
  refine qr_iload_n 50 rfl rfl rfl ?_
  refine qr_bipush 52 rfl (by decide) rfl ?_
  refine qr_icmp_le 62 55 rfl rfl rfl (by decide) (by decide) (fun h4 => ?_) (fun h => False.elim (by omega))
  refine qr_iload_n 63 rfl rfl rfl ?_
  refine qr_iconst 64 rfl rfl ?_
  refine qr_icmp_le 74 67 rfl rfl rfl (by decide) (by decide) (fun h => False.elim (by omega)) (fun h5 => ?_)
  refine qr_iinc _ 70 rfl rfl (by decide) rfl rfl ?_
  refine qr_iload_n 71 rfl rfl rfl ?_
  refine qr_iconst 72 rfl rfl ?_
  refine qr_iushr 73 rfl rfl ?_
  refine qy_v 1 rfl ?_
  refine qr_istore_n _ 74 rfl (by decide) rfl rfl ?_
  refine qr_iload_n 75 rfl rfl rfl ?_
  refine qr_iload_n 76 rfl rfl rfl ?_
  refine qr_iconst 77 rfl rfl ?_
  refine qr_iushr 78 rfl rfl ?_
  refine qy_v 0 rfl ?_
  refine qr_iadd 79 rfl rfl ?_
  refine qr_retI rfl rfl (by decide) (by decide) ?_
  exact ⟨rfl, ((((1 + 16) + 8) + 2) + 0), rfl, (by omega), by omega⟩

set_option maxHeartbeats 4000000 in
set_option maxRecDepth 20000 in
/-- java/lang/Integer.numberOfTrailingZeros -/
theorem sf_83t28 {L : Nat} {xs : Nat → Int} {vb : Bool} {d : Nat} {σ α : Nat → Nat → Int} {κ : Nat → Option Nat} {ρ : Nat}  (hI : qI σ α κ ρ)  : qm_T (qe L xs vb) (d + 1) 83 [.int (qz 268435456)] (qw σ α κ ρ) (fun r w' => w' = qw σ α κ ρ ∧ ∃ v : Int, r = some (.int (qz v)) ∧ (0 ≤ v ∧ v ≤ 31) ∧ v = 28) := by
  refine qr_start (d := d + 0) qv_e83 (Nat.le_of_ble_eq_true rfl) ?_
  show qr_W (qe L xs vb) (d + 0) qx_e83 _ (0, [(0, .int (qz 268435456))], [], _, 0, 0)
  refine qr_iload_n 1 rfl rfl rfl ?_
  refine qr_iconst 2 rfl rfl ?_
  refine qr_ixor 3 rfl rfl ?_
  refine qy_v (-268435457) rfl ?_
  refine qr_iload_n 4 rfl rfl rfl ?_
  refine qr_iconst 5 rfl rfl ?_
  refine qr_isub 6 rfl rfl ?_
  refine qy_v 268435455 rfl ?_
  refine qr_iand 7 rfl rfl ?_
  refine qy_v 268435455 rfl ?_
  refine qr_istore_n _ 8 rfl (by decide) rfl rfl ?_
  refine qr_iload_n 9 rfl rfl rfl ?_
  refine qr_if_gt 17 12 rfl rfl rfl (by decide) (fun h1 => ?_) (fun h => False.elim (by omega))
  refine qr_iconst 18 rfl rfl ?_
  refine qr_istore_n _ 19 rfl (by decide) rfl rfl ?_
  refine qr_iload_n 20 rfl rfl rfl ?_
  refine qr_ldcw 65536 23 rfl (by decide) rfl ?_
  refine qr_icmp_le 34 26 rfl rfl rfl (by decide) (by decide) (fun h => False.elim (by omega)) (fun h2 => ?_)
  refine qr_iinc _ 29 rfl rfl (by decide) rfl rfl ?_
  refine qr_iload_n 30 rfl rfl rfl ?_
  refine qr_bipush 32 rfl (by decide) rfl ?_
  refine qr_iushr 33 rfl rfl ?_
  refine qy_v 4095 rfl ?_
  refine qr_istore_n _ 34 rfl (by decide) rfl rfl ?_
  refine qr_iload_n 35 rfl rfl rfl ?_
  refine qr_sipush 38 rfl (by decide) rfl ?_
  refine qr_icmp_le 49 41 rfl rfl rfl (by decide) (by decide) (fun h => False.elim (by omega)) (fun h3 => ?_)
  refine qr_iinc _ 44 rfl rfl (by decide) rfl rfl ?_
  refine qr_iload_n 45 rfl rfl rfl ?_
  refine qr_bipush 47 rfl (by decide) rfl ?_
  refine qr_iushr 48 rfl rfl ?_
  refine qy_v 15 rfl ?_
  refine qr_istore_n _ 49 rfl (by decide) rfl rfl ?_
  refine qr_iload_n 50 rfl rfl rfl ?_
  refine qr_bipush 52 rfl (by decide) rfl ?_
  refine qr_icmp_le 62 55 rfl rfl rfl (by decide) (by decide) (fun h4 => ?_) (fun h => False.elim (by omega))
  refine qr_iload_n 63 rfl rfl rfl ?_
  refine qr_iconst 64 rfl rfl ?_
  refine qr_icmp_le 74 67 rfl rfl rfl (by decide) (by decide) (fun h => False.elim (by omega)) (fun h5 => ?_)
  refine qr_iinc _ 70 rfl rfl (by decide) rfl rfl ?_
  refine qr_iload_n 71 rfl rfl rfl ?_
  refine qr_iconst 72 rfl rfl ?_
  refine qr_iushr 73 rfl rfl ?_
  refine qy_v 3 rfl ?_
  refine qr_istore_n _ 74 rfl (by decide) rfl rfl ?_
  refine qr_iload_n 75 rfl rfl rfl ?_
  refine qr_iload_n 76 rfl rfl rfl ?_
  refine qr_iconst 77 rfl rfl ?_
  refine qr_iushr 78 rfl rfl ?_
  refine qy_v 1 rfl ?_
  refine qr_iadd 79 rfl rfl ?_
  refine qr_retI rfl rfl (by decide) (by decide) ?_
  exact ⟨rfl, ((((1 + 16) + 8) + 2) + 1), rfl, (by omega), by omega⟩

set_option maxHeartbeats 4000000 in
set_option maxRecDepth 20000 in
/-- java/lang/Integer.numberOfTrailingZeros -/
theorem sf_83t29 {L : Nat} {xs : Nat → Int} {vb : Bool} {d : Nat} {σ α : Nat → Nat → Int} {κ : Nat → Option Nat} {ρ : Nat}  (hI : qI σ α κ ρ)  : qm_T (qe L xs vb) (d + 1) 83 [.int (qz 536870912)] (qw σ α κ ρ) (fun r w' => w' = qw σ α κ ρ ∧ ∃ v : Int, r = some (.int (qz v)) ∧ (0 ≤ v ∧ v ≤ 31) ∧ v = 29) := by
  refine qr_start (d := d + 0) qv_e83 (Nat.le_of_ble_eq_true rfl) ?_
  show qr_W (qe L xs vb) (d + 0) qx_e83 _ (0, [(0, .int (qz 536870912))], [], _, 0, 0)
  refine qr_iload_n 1 rfl rfl rfl ?_
  refine qr_iconst 2 rfl rfl ?_
  refine qr_ixor 3 rfl rfl ?_
  refine qy_v (-536870913) rfl ?_
  refine qr_iload_n 4 rfl rfl rfl ?_
  refine qr_iconst 5 rfl rfl ?_
  refine qr_isub 6 rfl rfl ?_
  refine qy_v 536870911 rfl ?_
  refine qr_iand 7 rfl rfl ?_
  refine qy_v 536870911 rfl ?_
  refine qr_istore_n _ 8 rfl (by decide) rfl rfl ?_
  refine qr_iload_n 9 rfl rfl rfl ?_
  refine qr_if_gt 17 12 rfl rfl rfl (by decide) (fun h1 => ?_) (fun h => False.elim (by omega))
  refine qr_iconst 18 rfl rfl ?_
  refine qr_istore_n _ 19 rfl (by decide) rfl rfl ?_
  refine qr_iload_n 20 rfl rfl rfl ?_
  refine qr_ldcw 65536 23 rfl (by decide) rfl ?_
  refine qr_icmp_le 34 26 rfl rfl rfl (by decide) (by decide) (fun h => False.elim (by omega)) (fun h2 => ?_)
  refine qr_iinc _ 29 rfl rfl (by decide) rfl rfl ?_
  refine qr_iload_n 30 rfl rfl rfl ?_
  refine qr_bipush 32 rfl (by decide) rfl ?_
  refine qr_iushr 33 rfl rfl ?_
  refine qy_v 8191 rfl ?_
  refine qr_istore_n _ 34 rfl (by decide) rfl rfl ?_
  refine qr_iload_n 35 rfl rfl rfl ?_
  refine qr_sipush 38 rfl (by decide) rfl ?_
  refine qr_icmp_le 49 41 rfl rfl rfl (by decide) (by decide) (fun h => False.elim (by omega)) (fun h3 => ?_)
  refine qr_iinc _ 44 rfl rfl (by decide) rfl rfl ?_
  refine qr_iload_n 45 rfl rfl rfl ?_
  refine qr_bipush 47 rfl (by decide) rfl ?_
  refine qr_iushr 48 rfl rfl ?_
  refine qy_v 31 rfl ?_
  refine qr_istore_n _ 49 rfl (by decide) rfl rfl ?_
  refine qr_iload_n 50 rfl rfl rfl ?_
  refine qr_bipush 52 rfl (by decide) rfl ?_
  refine qr_icmp_le 62 55 rfl rfl rfl (by decide) (by decide) (fun h => False.elim (by omega)) (fun h4 => ?_)
  refine qr_iinc _ 58 rfl rfl (by decide) rfl rfl ?_
  refine qr_iload_n 59 rfl rfl rfl ?_
  refine qr_iconst 60 rfl rfl ?_
  refine qr_iushr 61 rfl rfl ?_
  refine qy_v 1 rfl ?_
  refine qr_istore_n _ 62 rfl (by decide) rfl rfl ?_
  refine qr_iload_n 63 rfl rfl rfl ?_
  refine qr_iconst 64 rfl rfl ?_
  refine qr_icmp_le 74 67 rfl rfl rfl (by decide) (by decide) (fun h5 => ?_) (fun h => False.elim (by omega))
  refine qr_iload_n 75 rfl rfl rfl ?_
  refine qr_iload_n 76 rfl rfl rfl ?_
  refine qr_iconst 77 rfl rfl ?_
  refine qr_iushr 78 rfl rfl ?_
  refine qy_v 0 rfl ?_
  refine qr_iadd 79 rfl rfl ?_
  refine qr_retI rfl rfl (by decide) (by decide) ?_
  exact ⟨rfl, ((((1 + 16) + 8) + 4) + 0), rfl, (by omega), by omega⟩

set_option maxHeartbeats 4000000 in
set_option maxRecDepth 20000 in
/-- java/lang/Integer.numberOfTrailingZeros -/
theorem sf_83t30 {L : Nat} {xs : Nat → Int} {vb : Bool} {d : Nat} {σ α : Nat → Nat → Int} {κ : Nat → Option Nat} {ρ : Nat}  (hI : qI σ α κ ρ)  : qm_T (qe L xs vb) (d + 1) 83 [.int (qz 1073741824)] (qw σ α κ ρ) (fun r w' => w' = qw σ α κ ρ ∧ ∃ v : Int, r = some (.int (qz v)) ∧ (0 ≤ v ∧ v ≤ 31) ∧ v = 30) := by
  refine qr_start (d := d + 0) qv_e83 (Nat.le_of_ble_eq_true rfl) ?_
  show qr_W (qe L xs vb) (d + 0) qx_e83 _ (0, [(0, .int (qz 1073741824))], [], _, 0, 0)
  refine qr_iload_n 1 rfl rfl rfl ?_
  refine qr_iconst 2 rfl rfl ?_
  refine qr_ixor 3 rfl rfl ?_
  refine qy_v (-1073741825) rfl ?_
  refine qr_iload_n 4 rfl rfl rfl ?_
  refine qr_iconst 5 rfl rfl ?_
  refine qr_isub 6 rfl rfl ?_
  refine qy_v 1073741823 rfl ?_
  refine qr_iand 7 rfl rfl ?_
  refine qy_v 1073741823 rfl ?_
  refine qr_istore_n _ 8 rfl (by decide) rfl rfl ?_
  refine qr_iload_n 9 rfl rfl rfl ?_
  refine qr_if_gt 17 12 rfl rfl rfl (by decide) (fun h1 => ?_) (fun h => False.elim (by omega))
  refine qr_iconst 18 rfl rfl ?_
  refine qr_istore_n _ 19 rfl (by decide) rfl rfl ?_
  refine qr_iload_n 20 rfl rfl rfl ?_
  refine qr_ldcw 65536 23 rfl (by decide) rfl ?_
  refine qr_icmp_le 34 26 rfl rfl rfl (by decide) (by decide) (fun h => False.elim (by omega)) (fun h2 => ?_)
  refine qr_iinc _ 29 rfl rfl (by decide) rfl rfl ?_
  refine qr_iload_n 30 rfl rfl rfl ?_
  refine qr_bipush 32 rfl (by decide) rfl ?_
  refine qr_iushr 33 rfl rfl ?_
  refine qy_v 16383 rfl ?_
  refine qr_istore_n _ 34 rfl (by decide) rfl rfl ?_
  refine qr_iload_n 35 rfl rfl rfl ?_
  refine qr_sipush 38 rfl (by decide) rfl ?_
  refine qr_icmp_le 49 41 rfl rfl rfl (by decide) (by decide) (fun h => False.elim (by omega)) (fun h3 => ?_)
  refine qr_iinc _ 44 rfl rfl (by decide) rfl rfl ?_
  refine qr_iload_n 45 rfl rfl rfl ?_
  refine qr_bipush 47 rfl (by decide) rfl ?_
  refine qr_iushr 48 rfl rfl ?_
  refine qy_v 63 rfl ?_
  refine qr_istore_n _ 49 rfl (by decide) rfl rfl ?_
  refine qr_iload_n 50 rfl rfl rfl ?_
  refine qr_bipush 52 rfl (by decide) rfl ?_
  refine qr_icmp_le 62 55 rfl rfl rfl (by decide) (by decide) (fun h => False.elim (by omega)) (fun h4 => ?_)
  refine qr_iinc _ 58 rfl rfl (by decide) rfl rfl ?_
  refine qr_iload_n 59 rfl rfl rfl ?_
  refine qr_iconst 60 rfl rfl ?_
  refine qr_iushr 61 rfl rfl ?_
  refine qy_v 3 rfl ?_
  refine qr_istore_n _ 62 rfl (by decide) rfl rfl ?_
  refine qr_iload_n 63 rfl rfl rfl ?_
  refine qr_iconst 64 rfl rfl ?_
  refine qr_icmp_le 74 67 rfl rfl rfl (by decide) (by decide) (fun h5 => ?_) (fun h => False.elim (by omega))
  refine qr_iload_n 75 rfl rfl rfl ?_
  refine qr_iload_n 76 rfl rfl rfl ?_
  refine qr_iconst 77 rfl rfl ?_
  refine qr_iushr 78 rfl rfl ?_
  refine qy_v 1 rfl ?_
  refine qr_iadd 79 rfl rfl ?_
  refine qr_retI rfl rfl (by decide) (by decide) ?_
  exact ⟨rfl, ((((1 + 16) + 8) + 4) + 1), rfl, (by omega), by omega⟩

set_option maxHeartbeats 4000000 in
set_option maxRecDepth 20000 in
/-- java/lang/Integer.numberOfTrailingZeros -/
theorem sf_83t31 {L : Nat} {xs : Nat → Int} {vb : Bool} {d : Nat} {σ α : Nat → Nat → Int} {κ : Nat → Option Nat} {ρ : Nat}  (hI : qI σ α κ ρ)  : qm_T (qe L xs vb) (d + 1) 83 [.int (qz (-2147483648))] (qw σ α κ ρ) (fun r w' => w' = qw σ α κ ρ ∧ ∃ v : Int, r = some (.int (qz v)) ∧ (0 ≤ v ∧ v ≤ 31) ∧ v = 31) := by
  refine qr_start (d := d + 0) qv_e83 (Nat.le_of_ble_eq_true rfl) ?_
  show qr_W (qe L xs vb) (d + 0) qx_e83 _ (0, [(0, .int (qz (-2147483648)))], [], _, 0, 0)
  refine qr_iload_n 1 rfl rfl rfl ?_
  refine qr_iconst 2 rfl rfl ?_
  refine qr_ixor 3 rfl rfl ?_
  refine qy_v 2147483647 rfl ?_
  refine qr_iload_n 4 rfl rfl rfl ?_
  refine qr_iconst 5 rfl rfl ?_
  refine qr_isub 6 rfl rfl ?_
  refine qy_vz 2147483647 (by decide) ?_
  refine qr_iand 7 rfl rfl ?_
  refine qy_v 2147483647 rfl ?_
  refine qr_istore_n _ 8 rfl (by decide) rfl rfl ?_
  refine qr_iload_n 9 rfl rfl rfl ?_
  refine qr_if_gt 17 12 rfl rfl rfl (by decide) (fun h1 => ?_) (fun h => False.elim (by omega))
  refine qr_iconst 18 rfl rfl ?_
  refine qr_istore_n _ 19 rfl (by decide) rfl rfl ?_
  refine qr_iload_n 20 rfl rfl rfl ?_
  refine qr_ldcw 65536 23 rfl (by decide) rfl ?_
  refine qr_icmp_le 34 26 rfl rfl rfl (by decide) (by decide) (fun h => False.elim (by omega)) (fun h2 => ?_)
  refine qr_iinc _ 29 rfl rfl (by decide) rfl rfl ?_
  refine qr_iload_n 30 rfl rfl rfl ?_
  refine qr_bipush 32 rfl (by decide) rfl ?_
  refine qr_iushr 33 rfl rfl ?_
  refine qy_v 32767 rfl ?_
  refine qr_istore_n _ 34 rfl (by decide) rfl rfl ?_
  refine qr_iload_n 35 rfl rfl rfl ?_
  refine qr_sipush 38 rfl (by decide) rfl ?_
  refine qr_icmp_le 49 41 rfl rfl rfl (by decide) (by decide) (fun h => False.elim (by omega)) (fun h3 => ?_)
  refine qr_iinc _ 44 rfl rfl (by decide) rfl rfl ?_
  refine qr_iload_n 45 rfl rfl rfl ?_
  refine qr_bipush 47 rfl (by decide) rfl ?_
  refine qr_iushr 48 rfl rfl ?_
  refine qy_v 127 rfl ?_
  refine qr_istore_n _ 49 rfl (by decide) rfl rfl ?_
  refine qr_iload_n 50 rfl rfl rfl ?_
  refine qr_bipush 52 rfl (by decide) rfl ?_
  refine qr_icmp_le 62 55 rfl rfl rfl (by decide) (by decide) (fun h => False.elim (by omega)) (fun h4 => ?_)
  refine qr_iinc _ 58 rfl rfl (by decide) rfl rfl ?_
  refine qr_iload_n 59 rfl rfl rfl ?_
  refine qr_iconst 60 rfl rfl ?_
  refine qr_iushr 61 rfl rfl ?_
  refine qy_v 7 rfl ?_
  refine qr_istore_n _ 62 rfl (by decide) rfl rfl ?_
  refine qr_iload_n 63 rfl rfl rfl ?_
  refine qr_iconst 64 rfl rfl ?_
  refine qr_icmp_le 74 67 rfl rfl rfl (by decide) (by decide) (fun h => False.elim (by omega)) (fun h5 => ?_)
  refine qr_iinc _ 70 rfl rfl (by decide) rfl rfl ?_
  refine qr_iload_n 71 rfl rfl rfl ?_
  refine qr_iconst 72 rfl rfl ?_
  refine qr_iushr 73 rfl rfl ?_
  refine qy_v 1 rfl ?_
  refine qr_istore_n _ 74 rfl (by decide) rfl rfl ?_
  refine qr_iload_n 75 rfl rfl rfl ?_
  refine qr_iload_n 76 rfl rfl rfl ?_
  refine qr_iconst 77 rfl rfl ?_
  refine qr_iushr 78 rfl rfl ?_
  refine qy_v 0 rfl ?_
  refine qr_iadd 79 rfl rfl ?_
  refine qr_retI rfl rfl (by decide) (by decide) ?_
  exact ⟨rfl, (((((1 + 16) + 8) + 4) + 2) + 0), rfl, (by omega), by omega⟩

set_option maxHeartbeats 4000000 in
set_option maxRecDepth 20000 in
/-- java/lang/Long.numberOfTrailingZeros -/
theorem sf_82t0 {L : Nat} {xs : Nat → Int} {vb : Bool} {d : Nat} {σ α : Nat → Nat → Int} {κ : Nat → Option Nat} {ρ : Nat}  (hI : qI σ α κ ρ)  : qm_T (qe L xs vb) (d + 2) 82 [.long (ql 1)] (qw σ α κ ρ) (fun r w' => w' = qw σ α κ ρ ∧ ∃ v : Int, r = some (.int (qz v)) ∧ ((-2147483648) ≤ v ∧ v ≤ 2147483647) ∧ v = 0) := by
  refine qr_start (d := d + 1) qv_e82 (Nat.le_of_ble_eq_true rfl) ?_
  show qr_W (qe L xs vb) (d + 1) qx_e82 _ (0, [(0, .long (ql 1))], [], _, 0, 0)
  refine qr_lload_n 1 rfl rfl rfl ?_
  refine qr_l2i 2 rfl rfl ?_
  refine qy_v 1 (by decide) ?_
  refine qr_istore_n _ 3 rfl (by decide) rfl rfl ?_
  refine qr_iload_n 4 rfl rfl rfl ?_
  refine qr_if_ne 21 7 rfl rfl rfl (by decide) (fun h1 => ?_) (fun h => False.elim (by omega))
  refine qr_iload_n 22 rfl rfl rfl ?_
  refine qr_callN 25 rfl rfl rfl (sf_83t0 (d := d + 0) hI ) ?_
  rintro _ _ ⟨rfl, v2, rfl, hv2, hp3⟩
  show qr_W (qe L xs vb) (d + 1) qx_e82 _ (25, _, [.int (qz v2)], qw σ α κ ρ, 0, 0)
  refine qr_retI rfl rfl (by decide) (by decide) ?_
  exact ⟨rfl, v2, rfl, (qrg hv2 (by decide) (by decide)), by omega⟩

set_option maxHeartbeats 4000000 in
set_option maxRecDepth 20000 in
/-- java/lang/Long.numberOfTrailingZeros -/
theorem sf_82t1 {L : Nat} {xs : Nat → Int} {vb : Bool} {d : Nat} {σ α : Nat → Nat → Int} {κ : Nat → Option Nat} {ρ : Nat}  (hI : qI σ α κ ρ)  : qm_T (qe L xs vb) (d + 2) 82 [.long (ql 2)] (qw σ α κ ρ) (fun r w' => w' = qw σ α κ ρ ∧ ∃ v : Int, r = some (.int (qz v)) ∧ ((-2147483648) ≤ v ∧ v ≤ 2147483647) ∧ v = 1) := by
  refine qr_start (d := d + 1) qv_e82 (Nat.le_of_ble_eq_true rfl) ?_
  show qr_W (qe L xs vb) (d + 1) qx_e82 _ (0, [(0, .long (ql 2))], [], _, 0, 0)
  refine qr_lload_n 1 rfl rfl rfl ?_
  refine qr_l2i 2 rfl rfl ?_
  refine qy_v 2 (by decide) ?_
  refine qr_istore_n _ 3 rfl (by decide) rfl rfl ?_
  refine qr_iload_n 4 rfl rfl rfl ?_
  refine qr_if_ne 21 7 rfl rfl rfl (by decide) (fun h1 => ?_) (fun h => False.elim (by omega))
  refine qr_iload_n 22 rfl rfl rfl ?_
  refine qr_callN 25 rfl rfl rfl (sf_83t1 (d := d + 0) hI ) ?_
  rintro _ _ ⟨rfl, v2, rfl, hv2, hp3⟩
  show qr_W (qe L xs vb) (d + 1) qx_e82 _ (25, _, [.int (qz v2)], qw σ α κ ρ, 0, 0)
  refine qr_retI rfl rfl (by decide) (by decide) ?_
  exact ⟨rfl, v2, rfl, (qrg hv2 (by decide) (by decide)), by omega⟩

set_option maxHeartbeats 4000000 in
set_option maxRecDepth 20000 in
/-- java/lang/Long.numberOfTrailingZeros -/
theorem sf_82t2 {L : Nat} {xs : Nat → Int} {vb : Bool} {d : Nat} {σ α : Nat → Nat → Int} {κ : Nat → Option Nat} {ρ : Nat}  (hI : qI σ α κ ρ)  : qm_T (qe L xs vb) (d + 2) 82 [.long (ql 4)] (qw σ α κ ρ) (fun r w' => w' = qw σ α κ ρ ∧ ∃ v : Int, r = some (.int (qz v)) ∧ ((-2147483648) ≤ v ∧ v ≤ 2147483647) ∧ v = 2) := by
  refine qr_start (d := d + 1) qv_e82 (Nat.le_of_ble_eq_true rfl) ?_
  show qr_W (qe L xs vb) (d + 1) qx_e82 _ (0, [(0, .long (ql 4))], [], _, 0, 0)
  refine qr_lload_n 1 rfl rfl rfl ?_
  refine qr_l2i 2 rfl rfl ?_
  refine qy_v 4 (by decide) ?_
  refine qr_istore_n _ 3 rfl (by decide) rfl rfl ?_
  refine qr_iload_n 4 rfl rfl rfl ?_
  refine qr_if_ne 21 7 rfl rfl rfl (by decide) (fun h1 => ?_) (fun h => False.elim (by omega))
  refine qr_iload_n 22 rfl rfl rfl ?_
  refine qr_callN 25 rfl rfl rfl (sf_83t2 (d := d + 0) hI ) ?_
  rintro _ _ ⟨rfl, v2, rfl, hv2, hp3⟩
  show qr_W (qe L xs vb) (d + 1) qx_e82 _ (25, _, [.int (qz v2)], qw σ α κ ρ, 0, 0)
  refine qr_retI rfl rfl (by decide) (by decide) ?_
  exact ⟨rfl, v2, rfl, (qrg hv2 (by decide) (by decide)), by omega⟩

set_option maxHeartbeats 4000000 in
set_option maxRecDepth 20000 in
/-- java/lang/Long.numberOfTrailingZeros -/
theorem sf_82t3 {L : Nat} {xs : Nat → Int} {vb : Bool} {d : Nat} {σ α : Nat → Nat → Int} {κ : Nat → Option Nat} {ρ : Nat}  (hI : qI σ α κ ρ)  : qm_T (qe L xs vb) (d + 2) 82 [.long (ql 8)] (qw σ α κ ρ) (fun r w' => w' = qw σ α κ ρ ∧ ∃ v : Int, r = some (.int (qz v)) ∧ ((-2147483648) ≤ v ∧ v ≤ 2147483647) ∧ v = 3) := by
  refine qr_start (d := d + 1) qv_e82 (Nat.le_of_ble_eq_true rfl) ?_
  show qr_W (qe L xs vb) (d + 1) qx_e82 _ (0, [(0, .long (ql 8))], [], _, 0, 0)
  refine qr_lload_n 1 rfl rfl rfl ?_
  refine qr_l2i 2 rfl rfl ?_
  refine qy_v 8 (by decide) ?_
  refine qr_istore_n _ 3 rfl (by decide) rfl rfl ?_
  refine qr_iload_n 4 rfl rfl rfl ?_
  refine qr_if_ne 21 7 rfl rfl rfl (by decide) (fun h1 => ?_) (fun h => False.elim (by omega))
  refine qr_iload_n 22 rfl rfl rfl ?_
  refine qr_callN 25 rfl rfl rfl (sf_83t3 (d := d + 0) hI ) ?_
  rintro _ _ ⟨rfl, v2, rfl, hv2, hp3⟩
  show qr_W (qe L xs vb) (d + 1) qx_e82 _ (25, _, [.int (qz v2)], qw σ α κ ρ, 0, 0)
  refine qr_retI rfl rfl (by decide) (by decide) ?_
  exact ⟨rfl, v2, rfl, (qrg hv2 (by decide) (by decide)), by omega⟩

set_option maxHeartbeats 4000000 in
set_option maxRecDepth 20000 in
/-- java/lang/Long.numberOfTrailingZeros -/
theorem sf_82t4 {L : Nat} {xs : Nat → Int} {vb : Bool} {d : Nat} {σ α : Nat → Nat → Int} {κ : Nat → Option Nat} {ρ : Nat}  (hI : qI σ α κ ρ)  : qm_T (qe L xs vb) (d + 2) 82 [.long (ql 16)] (qw σ α κ ρ) (fun r w' => w' = qw σ α κ ρ ∧ ∃ v : Int, r = some (.int (qz v)) ∧ ((-2147483648) ≤ v ∧ v ≤ 2147483647) ∧ v = 4) := by
  refine qr_start (d := d + 1) qv_e82 (Nat.le_of_ble_eq_true rfl) ?_
  show qr_W (qe L xs vb) (d + 1) qx_e82 _ (0, [(0, .long (ql 16))], [], _, 0, 0)
  refine qr_lload_n 1 rfl rfl rfl ?_
  refine qr_l2i 2 rfl rfl ?_
  refine qy_v 16 (by decide) ?_
  refine qr_istore_n _ 3 rfl (by decide) rfl rfl ?_
  refine qr_iload_n 4 rfl rfl rfl ?_
  refine qr_if_ne 21 7 rfl rfl rfl (by decide) (fun h1 => ?_) (fun h => False.elim (by omega))
  refine qr_iload_n 22 rfl rfl rfl ?_
  refine qr_callN 25 rfl rfl rfl (sf_83t4 (d := d + 0) hI ) ?_
  rintro _ _ ⟨rfl, v2, rfl, hv2, hp3⟩
  show qr_W (qe L xs vb) (d + 1) qx_e82 _ (25, _, [.int (qz v2)], qw σ α κ ρ, 0, 0)
  refine qr_retI rfl rfl (by decide) (by decide) ?_
  exact ⟨rfl, v2, rfl, (qrg hv2 (by decide) (by decide)), by omega⟩

set_option maxHeartbeats 4000000 in
set_option maxRecDepth 20000 in
/-- java/lang/Long.numberOfTrailingZeros -/
theorem sf_82t5 {L : Nat} {xs : Nat → Int} {vb : Bool} {d : Nat} {σ α : Nat → Nat → Int} {κ : Nat → Option Nat} {ρ : Nat}  (hI : qI σ α κ ρ)  : qm_T (qe L xs vb) (d + 2) 82 [.long (ql 32)] (qw σ α κ ρ) (fun r w' => w' = qw σ α κ ρ ∧ ∃ v : Int, r = some (.int (qz v)) ∧ ((-2147483648) ≤ v ∧ v ≤ 2147483647) ∧ v = 5) := by
  refine qr_start (d := d + 1) qv_e82 (Nat.le_of_ble_eq_true rfl) ?_
  show qr_W (qe L xs vb) (d + 1) qx_e82 _ (0, [(0, .long (ql 32))], [], _, 0, 0)
  refine qr_lload_n 1 rfl rfl rfl ?_
  refine qr_l2i 2 rfl rfl ?_
  refine qy_v 32 (by decide) ?_
  refine qr_istore_n _ 3 rfl (by decide) rfl rfl ?_
  refine qr_iload_n 4 rfl rfl rfl ?_
  refine qr_if_ne 21 7 rfl rfl rfl (by decide) (fun h1 => ?_) (fun h => False.elim (by omega))
  refine qr_iload_n 22 rfl rfl rfl ?_
  refine qr_callN 25 rfl rfl rfl (sf_83t5 (d := d + 0) hI ) ?_
  rintro _ _ ⟨rfl, v2, rfl, hv2, hp3⟩
  show qr_W (qe L xs vb) (d + 1) qx_e82 _ (25, _, [.int (qz v2)], qw σ α κ ρ, 0, 0)
  refine qr_retI rfl rfl (by decide) (by decide) ?_
  exact ⟨rfl, v2, rfl, (qrg hv2 (by decide) (by decide)), by omega⟩

set_option maxHeartbeats 4000000 in
set_option maxRecDepth 20000 in
/-- java/lang/Long.numberOfTrailingZeros -/
theorem sf_82t6 {L : Nat} {xs : Nat → Int} {vb : Bool} {d : Nat} {σ α : Nat → Nat → Int} {κ : Nat → Option Nat} {ρ : Nat}  (hI : qI σ α κ ρ)  : qm_T (qe L xs vb) (d + 2) 82 [.long (ql 64)] (qw σ α κ ρ) (fun r w' => w' = qw σ α κ ρ ∧ ∃ v : Int, r = some (.int (qz v)) ∧ ((-2147483648) ≤ v ∧ v ≤ 2147483647) ∧ v = 6) := by
  refine qr_start (d := d + 1) qv_e82 (Nat.le_of_ble_eq_true rfl) ?_
  show qr_W (qe L xs vb) (d + 1) qx_e82 _ (0, [(0, .long (ql 64))], [], _, 0, 0)
  refine qr_lload_n 1 rfl rfl rfl ?_
  refine qr_l2i 2 rfl rfl ?_
  refine qy_v 64 (by decide) ?_
  refine qr_istore_n _ 3 rfl (by decide) rfl rfl ?_
  refine qr_iload_n 4 rfl rfl rfl ?_
  refine qr_if_ne 21 7 rfl rfl rfl (by decide) (fun h1 => ?_) (fun h => False.elim (by omega))
  refine qr_iload_n 22 rfl rfl rfl ?_
  refine qr_callN 25 rfl rfl rfl (sf_83t6 (d := d + 0) hI ) ?_
  rintro _ _ ⟨rfl, v2, rfl, hv2, hp3⟩
  show qr_W (qe L xs vb) (d + 1) qx_e82 _ (25, _, [.int (qz v2)], qw σ α κ ρ, 0, 0)
  refine qr_retI rfl rfl (by decide) (by decide) ?_
  exact ⟨rfl, v2, rfl, (qrg hv2 (by decide) (by decide)), by omega⟩

set_option maxHeartbeats 4000000 in
set_option maxRecDepth 20000 in
/-- java/lang/Long.numberOfTrailingZeros -/
theorem sf_82t7 {L : Nat} {xs : Nat → Int} {vb : Bool} {d : Nat} {σ α : Nat → Nat → Int} {κ : Nat → Option Nat} {ρ : Nat}  (hI : qI σ α κ ρ)  : qm_T (qe L xs vb) (d + 2) 82 [.long (ql 128)] (qw σ α κ ρ) (fun r w' => w' = qw σ α κ ρ ∧ ∃ v : Int, r = some (.int (qz v)) ∧ ((-2147483648) ≤ v ∧ v ≤ 2147483647) ∧ v = 7) := by
  refine qr_start (d := d + 1) qv_e82 (Nat.le_of_ble_eq_true rfl) ?_
  show qr_W (qe L xs vb) (d + 1) qx_e82 _ (0, [(0, .long (ql 128))], [], _, 0, 0)
  refine qr_lload_n 1 rfl rfl rfl ?_
  refine qr_l2i 2 rfl rfl ?_
  refine qy_v 128 (by decide) ?_
  refine qr_istore_n _ 3 rfl (by decide) rfl rfl ?_
  refine qr_iload_n 4 rfl rfl rfl ?_
  refine qr_if_ne 21 7 rfl rfl rfl (by decide) (fun h1 => ?_) (fun h => False.elim (by omega))
  refine qr_iload_n 22 rfl rfl rfl ?_
  refine qr_callN 25 rfl rfl rfl (sf_83t7 (d := d + 0) hI ) ?_
  rintro _ _ ⟨rfl, v2, rfl, hv2, hp3⟩
  show qr_W (qe L xs vb) (d + 1) qx_e82 _ (25, _, [.int (qz v2)], qw σ α κ ρ, 0, 0)
  refine qr_retI rfl rfl (by decide) (by decide) ?_
  exact ⟨rfl, v2, rfl, (qrg hv2 (by decide) (by decide)), by omega⟩

set_option maxHeartbeats 4000000 in
set_option maxRecDepth 20000 in
/-- java/lang/Long.numberOfTrailingZeros -/
theorem sf_82t8 {L : Nat} {xs : Nat → Int} {vb : Bool} {d : Nat} {σ α : Nat → Nat → Int} {κ : Nat → Option Nat} {ρ : Nat}  (hI : qI σ α κ ρ)  : qm_T (qe L xs vb) (d + 2) 82 [.long (ql 256)] (qw σ α κ ρ) (fun r w' => w' = qw σ α κ ρ ∧ ∃ v : Int, r = some (.int (qz v)) ∧ ((-2147483648) ≤ v ∧ v ≤ 2147483647) ∧ v = 8) := by
  refine qr_start (d := d + 1) qv_e82 (Nat.le_of_ble_eq_true rfl) ?_
  show qr_W (qe L xs vb) (d + 1) qx_e82 _ (0, [(0, .long (ql 256))], [], _, 0, 0)
  refine qr_lload_n 1 rfl rfl rfl ?_
  refine qr_l2i 2 rfl rfl ?_
  refine qy_v 256 (by decide) ?_
  refine qr_istore_n _ 3 rfl (by decide) rfl rfl ?_
  refine qr_iload_n 4 rfl rfl rfl ?_
  refine qr_if_ne 21 7 rfl rfl rfl (by decide) (fun h1 => ?_) (fun h => False.elim (by omega))
  refine qr_iload_n 22 rfl rfl rfl ?_
  refine qr_callN 25 rfl rfl rfl (sf_83t8 (d := d + 0) hI ) ?_
  rintro _ _ ⟨rfl, v2, rfl, hv2, hp3⟩
  show qr_W (qe L xs vb) (d + 1) qx_e82 _ (25, _, [.int (qz v2)], qw σ α κ ρ, 0, 0)
  refine qr_retI rfl rfl (by decide) (by decide) ?_
  exact ⟨rfl, v2, rfl, (qrg hv2 (by decide) (by decide)), by omega⟩

set_option maxHeartbeats 4000000 in
set_option maxRecDepth 20000 in
/-- java/lang/Long.numberOfTrailingZeros -/
theorem sf_82t9 {L : Nat} {xs : Nat → Int} {vb : Bool} {d : Nat} {σ α : Nat → Nat → Int} {κ : Nat → Option Nat} {ρ : Nat}  (hI : qI σ α κ ρ)  : qm_T (qe L xs vb) (d + 2) 82 [.long (ql 512)] (qw σ α κ ρ) (fun r w' => w' = qw σ α κ ρ ∧ ∃ v : Int, r = some (.int (qz v)) ∧ ((-2147483648) ≤ v ∧ v ≤ 2147483647) ∧ v = 9) := by
  refine qr_start (d := d + 1) qv_e82 (Nat.le_of_ble_eq_true rfl) ?_
  show qr_W (qe L xs vb) (d + 1) qx_e82 _ (0, [(0, .long (ql 512))], [], _, 0, 0)
  refine qr_lload_n 1 rfl rfl rfl ?_
  refine qr_l2i 2 rfl rfl ?_
  refine qy_v 512 (by decide) ?_
  refine qr_istore_n _ 3 rfl (by decide) rfl rfl ?_
  refine qr_iload_n 4 rfl rfl rfl ?_
  refine qr_if_ne 21 7 rfl rfl rfl (by decide) (fun h1 => ?_) (fun h => False.elim (by omega))
  refine qr_iload_n 22 rfl rfl rfl ?_
  refine qr_callN 25 rfl rfl rfl (sf_83t9 (d := d + 0) hI ) ?_
  rintro _ _ ⟨rfl, v2, rfl, hv2, hp3⟩
  show qr_W (qe L xs vb) (d + 1) qx_e82 _ (25, _, [.int (qz v2)], qw σ α κ ρ, 0, 0)
  refine qr_retI rfl rfl (by decide) (by decide) ?_
  exact ⟨rfl, v2, rfl, (qrg hv2 (by decide) (by decide)), by omega⟩

set_option maxHeartbeats 4000000 in
set_option maxRecDepth 20000 in
/-- java/lang/Long.numberOfTrailingZeros -/
theorem sf_82t10 {L : Nat} {xs : Nat → Int} {vb : Bool} {d : Nat} {σ α : Nat → Nat → Int} {κ : Nat → Option Nat} {ρ : Nat}  (hI : qI σ α κ ρ)  : qm_T (qe L xs vb) (d + 2) 82 [.long (ql 1024)] (qw σ α κ ρ) (fun r w' => w' = qw σ α κ ρ ∧ ∃ v : Int, r = some (.int (qz v)) ∧ ((-2147483648) ≤ v ∧ v ≤ 2147483647) ∧ v = 10) := by
  refine qr_start (d := d + 1) qv_e82 (Nat.le_of_ble_eq_true rfl) ?_
  show qr_W (qe L xs vb) (d + 1) qx_e82 _ (0, [(0, .long (ql 1024))], [], _, 0, 0)
  refine qr_lload_n 1 rfl rfl rfl ?_
  refine qr_l2i 2 rfl rfl ?_
  refine qy_v 1024 (by decide) ?_
  refine qr_istore_n _ 3 rfl (by decide) rfl rfl ?_
  refine qr_iload_n 4 rfl rfl rfl ?_
  refine qr_if_ne 21 7 rfl rfl rfl (by decide) (fun h1 => ?_) (fun h => False.elim (by omega))
  refine qr_iload_n 22 rfl rfl rfl ?_
  refine qr_callN 25 rfl rfl rfl (sf_83t10 (d := d + 0) hI ) ?_
  rintro _ _ ⟨rfl, v2, rfl, hv2, hp3⟩
  show qr_W (qe L xs vb) (d + 1) qx_e82 _ (25, _, [.int (qz v2)], qw σ α κ ρ, 0, 0)
  refine qr_retI rfl rfl (by decide) (by decide) ?_
  exact ⟨rfl, v2, rfl, (qrg hv2 (by decide) (by decide)), by omega⟩

set_option maxHeartbeats 4000000 in
set_option maxRecDepth 20000 in
/-- java/lang/Long.numberOfTrailingZeros -/
theorem sf_82t11 {L : Nat} {xs : Nat → Int} {vb : Bool} {d : Nat} {σ α : Nat → Nat → Int} {κ : Nat → Option Nat} {ρ : Nat}  (hI : qI σ α κ ρ)  : qm_T (qe L xs vb) (d + 2) 82 [.long (ql 2048)] (qw σ α κ ρ) (fun r w' => w' = qw σ α κ ρ ∧ ∃ v : Int, r = some (.int (qz v)) ∧ ((-2147483648) ≤ v ∧ v ≤ 2147483647) ∧ v = 11) := by
  refine qr_start (d := d + 1) qv_e82 (Nat.le_of_ble_eq_true rfl) ?_
  show qr_W (qe L xs vb) (d + 1) qx_e82 _ (0, [(0, .long (ql 2048))], [], _, 0, 0)
  refine qr_lload_n 1 rfl rfl rfl ?_
  refine qr_l2i 2 rfl rfl ?_
  refine qy_v 2048 (by decide) ?_
  refine qr_istore_n _ 3 rfl (by decide) rfl rfl ?_
  refine qr_iload_n 4 rfl rfl rfl ?_
  refine qr_if_ne 21 7 rfl rfl rfl (by decide) (fun h1 => ?_) (fun h => False.elim (by omega))
  refine qr_iload_n 22 rfl rfl rfl ?_
  refine qr_callN 25 rfl rfl rfl (sf_83t11 (d := d + 0) hI ) ?_
  rintro _ _ ⟨rfl, v2, rfl, hv2, hp3⟩
  show qr_W (qe L xs vb) (d + 1) qx_e82 _ (25, _, [.int (qz v2)], qw σ α κ ρ, 0, 0)
  refine qr_retI rfl rfl (by decide) (by decide) ?_
  exact ⟨rfl, v2, rfl, (qrg hv2 (by decide) (by decide)), by omega⟩

set_option maxHeartbeats 4000000 in
set_option maxRecDepth 20000 in
/-- java/lang/Long.numberOfTrailingZeros -/
theorem sf_82t12 {L : Nat} {xs : Nat → Int} {vb : Bool} {d : Nat} {σ α : Nat → Nat → Int} {κ : Nat → Option Nat} {ρ : Nat}  (hI : qI σ α κ ρ)  : qm_T (qe L xs vb) (d + 2) 82 [.long (ql 4096)] (qw σ α κ ρ) (fun r w' => w' = qw σ α κ ρ ∧ ∃ v : Int, r = some (.int (qz v)) ∧ ((-2147483648) ≤ v ∧ v ≤ 2147483647) ∧ v = 12) := by
  refine qr_start (d := d + 1) qv_e82 (Nat.le_of_ble_eq_true rfl) ?_
  show qr_W (qe L xs vb) (d + 1) qx_e82 _ (0, [(0, .long (ql 4096))], [], _, 0, 0)
  refine qr_lload_n 1 rfl rfl rfl ?_
  refine qr_l2i 2 rfl rfl ?_
  refine qy_v 4096 (by decide) ?_
  refine qr_istore_n _ 3 rfl (by decide) rfl rfl ?_
  refine qr_iload_n 4 rfl rfl rfl ?_
  refine qr_if_ne 21 7 rfl rfl rfl (by decide) (fun h1 => ?_) (fun h => False.elim (by omega))
  refine qr_iload_n 22 rfl rfl rfl ?_
  refine qr_callN 25 rfl rfl rfl (sf_83t12 (d := d + 0) hI ) ?_
  rintro _ _ ⟨rfl, v2, rfl, hv2, hp3⟩
  show qr_W (qe L xs vb) (d + 1) qx_e82 _ (25, _, [.int (qz v2)], qw σ α κ ρ, 0, 0)
  refine qr_retI rfl rfl (by decide) (by decide) ?_
  exact ⟨rfl, v2, rfl, (qrg hv2 (by decide) (by decide)), by omega⟩

set_option maxHeartbeats 4000000 in
set_option maxRecDepth 20000 in
/-- java/lang/Long.numberOfTrailingZeros -/
theorem sf_82t13 {L : Nat} {xs : Nat → Int} {vb : Bool} {d : Nat} {σ α : Nat → Nat → Int} {κ : Nat → Option Nat} {ρ : Nat}  (hI : qI σ α κ ρ)  : qm_T (qe L xs vb) (d + 2) 82 [.long (ql 8192)] (qw σ α κ ρ) (fun r w' => w' = qw σ α κ ρ ∧ ∃ v : Int, r = some (.int (qz v)) ∧ ((-2147483648) ≤ v ∧ v ≤ 2147483647) ∧ v = 13) := by
  refine qr_start (d := d + 1) qv_e82 (Nat.le_of_ble_eq_true rfl) ?_
  show qr_W (qe L xs vb) (d + 1) qx_e82 _ (0, [(0, .long (ql 8192))], [], _, 0, 0)
  refine qr_lload_n 1 rfl rfl rfl ?_
  refine qr_l2i 2 rfl rfl ?_
  refine qy_v 8192 (by decide) ?_
  refine qr_istore_n _ 3 rfl (by decide) rfl rfl ?_
  refine qr_iload_n 4 rfl rfl rfl ?_
  refine qr_if_ne 21 7 rfl rfl rfl (by decide) (fun h1 => ?_) (fun h => False.elim (by omega))
  refine qr_iload_n 22 rfl rfl rfl ?_
  refine qr_callN 25 rfl rfl rfl (sf_83t13 (d := d + 0) hI ) ?_
  rintro _ _ ⟨rfl, v2, rfl, hv2, hp3⟩
  show qr_W (qe L xs vb) (d + 1) qx_e82 _ (25, _, [.int (qz v2)], qw σ α κ ρ, 0, 0)
  refine qr_retI rfl rfl (by decide) (by decide) ?_
  exact ⟨rfl, v2, rfl, (qrg hv2 (by decide) (by decide)), by omega⟩

set_option maxHeartbeats 4000000 in
set_option maxRecDepth 20000 in
/-- java/lang/Long.numberOfTrailingZeros -/
theorem sf_82t14 {L : Nat} {xs : Nat → Int} {vb : Bool} {d : Nat} {σ α : Nat → Nat → Int} {κ : Nat → Option Nat} {ρ : Nat}  (hI : qI σ α κ ρ)  : qm_T (qe L xs vb) (d + 2) 82 [.long (ql 16384)] (qw σ α κ ρ) (fun r w' => w' = qw σ α κ ρ ∧ ∃ v : Int, r = some (.int (qz v)) ∧ ((-2147483648) ≤ v ∧ v ≤ 2147483647) ∧ v = 14) := by
  refine qr_start (d := d + 1) qv_e82 (Nat.le_of_ble_eq_true rfl) ?_
  show qr_W (qe L xs vb) (d + 1) qx_e82 _ (0, [(0, .long (ql 16384))], [], _, 0, 0)
  refine qr_lload_n 1 rfl rfl rfl ?_
  refine qr_l2i 2 rfl rfl ?_
  refine qy_v 16384 (by decide) ?_
  refine qr_istore_n _ 3 rfl (by decide) rfl rfl ?_
  refine qr_iload_n 4 rfl rfl rfl ?_
  refine qr_if_ne 21 7 rfl rfl rfl (by decide) (fun h1 => ?_) (fun h => False.elim (by omega))
  refine qr_iload_n 22 rfl rfl rfl ?_
  refine qr_callN 25 rfl rfl rfl (sf_83t14 (d := d + 0) hI ) ?_
  rintro _ _ ⟨rfl, v2, rfl, hv2, hp3⟩
  show qr_W (qe L xs vb) (d + 1) qx_e82 _ (25, _, [.int (qz v2)], qw σ α κ ρ, 0, 0)
  refine qr_retI rfl rfl (by decide) (by decide) ?_
  exact ⟨rfl, v2, rfl, (qrg hv2 (by decide) (by decide)), by omega⟩

set_option maxHeartbeats 4000000 in
set_option maxRecDepth 20000 in
/-- java/lang/Long.numberOfTrailingZeros -/
theorem sf_82t15 {L : Nat} {xs : Nat → Int} {vb : Bool} {d : Nat} {σ α : Nat → Nat → Int} {κ : Nat → Option Nat} {ρ : Nat}  (hI : qI σ α κ ρ)  : qm_T (qe L xs vb) (d + 2) 82 [.long (ql 32768)] (qw σ α κ ρ) (fun r w' => w' = qw σ α κ ρ ∧ ∃ v : Int, r = some (.int (qz v)) ∧ ((-2147483648) ≤ v ∧ v ≤ 2147483647) ∧ v = 15) := by
  refine qr_start (d := d + 1) qv_e82 (Nat.le_of_ble_eq_true rfl) ?_
  show qr_W (qe L xs vb) (d + 1) qx_e82 _ (0, [(0, .long (ql 32768))], [], _, 0, 0)
  refine qr_lload_n 1 rfl rfl rfl ?_
  refine qr_l2i 2 rfl rfl ?_
  refine qy_v 32768 (by decide) ?_
  refine qr_istore_n _ 3 rfl (by decide) rfl rfl ?_
  refine qr_iload_n 4 rfl rfl rfl ?_
  refine qr_if_ne 21 7 rfl rfl rfl (by decide) (fun h1 => ?_) (fun h => False.elim (by omega))
  refine qr_iload_n 22 rfl rfl rfl ?_
  refine qr_callN 25 rfl rfl rfl (sf_83t15 (d := d + 0) hI ) ?_
  rintro _ _ ⟨rfl, v2, rfl, hv2, hp3⟩
  show qr_W (qe L xs vb) (d + 1) qx_e82 _ (25, _, [.int (qz v2)], qw σ α κ ρ, 0, 0)
  refine qr_retI rfl rfl (by decide) (by decide) ?_
  exact ⟨rfl, v2, rfl, (qrg hv2 (by decide) (by decide)), by omega⟩

set_option maxHeartbeats 4000000 in
set_option maxRecDepth 20000 in
/-- java/lang/Long.numberOfTrailingZeros -/
theorem sf_82t16 {L : Nat} {xs : Nat → Int} {vb : Bool} {d : Nat} {σ α : Nat → Nat → Int} {κ : Nat → Option Nat} {ρ : Nat}  (hI : qI σ α κ ρ)  : qm_T (qe L xs vb) (d + 2) 82 [.long (ql 65536)] (qw σ α κ ρ) (fun r w' => w' = qw σ α κ ρ ∧ ∃ v : Int, r = some (.int (qz v)) ∧ ((-2147483648) ≤ v ∧ v ≤ 2147483647) ∧ v = 16) := by
  refine qr_start (d := d + 1) qv_e82 (Nat.le_of_ble_eq_true rfl) ?_
  show qr_W (qe L xs vb) (d + 1) qx_e82 _ (0, [(0, .long (ql 65536))], [], _, 0, 0)
  refine qr_lload_n 1 rfl rfl rfl ?_
  refine qr_l2i 2 rfl rfl ?_
  refine qy_v 65536 (by decide) ?_
  refine qr_istore_n _ 3 rfl (by decide) rfl rfl ?_
  refine qr_iload_n 4 rfl rfl rfl ?_
  refine qr_if_ne 21 7 rfl rfl rfl (by decide) (fun h1 => ?_) (fun h => False.elim (by omega))
  refine qr_iload_n 22 rfl rfl rfl ?_
  refine qr_callN 25 rfl rfl rfl (sf_83t16 (d := d + 0) hI ) ?_
  rintro _ _ ⟨rfl, v2, rfl, hv2, hp3⟩
  show qr_W (qe L xs vb) (d + 1) qx_e82 _ (25, _, [.int (qz v2)], qw σ α κ ρ, 0, 0)
  refine qr_retI rfl rfl (by decide) (by decide) ?_
  exact ⟨rfl, v2, rfl, (qrg hv2 (by decide) (by decide)), by omega⟩

set_option maxHeartbeats 4000000 in
set_option maxRecDepth 20000 in
/-- java/lang/Long.numberOfTrailingZeros -/
theorem sf_82t17 {L : Nat} {xs : Nat → Int} {vb : Bool} {d : Nat} {σ α : Nat → Nat → Int} {κ : Nat → Option Nat} {ρ : Nat}  (hI : qI σ α κ ρ)  : qm_T (qe L xs vb) (d + 2) 82 [.long (ql 131072)] (qw σ α κ ρ) (fun r w' => w' = qw σ α κ ρ ∧ ∃ v : Int, r = some (.int (qz v)) ∧ ((-2147483648) ≤ v ∧ v ≤ 2147483647) ∧ v = 17) := by
  refine qr_start (d := d + 1) qv_e82 (Nat.le_of_ble_eq_true rfl) ?_
  show qr_W (qe L xs vb) (d + 1) qx_e82 _ (0, [(0, .long (ql 131072))], [], _, 0, 0)
  refine qr_lload_n 1 rfl rfl rfl ?_
  refine qr_l2i 2 rfl rfl ?_
  refine qy_v 131072 (by decide) ?_
  refine qr_istore_n _ 3 rfl (by decide) rfl rfl ?_
  refine qr_iload_n 4 rfl rfl rfl ?_
  refine qr_if_ne 21 7 rfl rfl rfl (by decide) (fun h1 => ?_) (fun h => False.elim (by omega))
  refine qr_iload_n 22 rfl rfl rfl ?_
  refine qr_callN 25 rfl rfl rfl (sf_83t17 (d := d + 0) hI ) ?_
  rintro _ _ ⟨rfl, v2, rfl, hv2, hp3⟩
  show qr_W (qe L xs vb) (d + 1) qx_e82 _ (25, _, [.int (qz v2)], qw σ α κ ρ, 0, 0)
  refine qr_retI rfl rfl (by decide) (by decide) ?_
  exact ⟨rfl, v2, rfl, (qrg hv2 (by decide) (by decide)), by omega⟩

set_option maxHeartbeats 4000000 in
set_option maxRecDepth 20000 in
/-- java/lang/Long.numberOfTrailingZeros -/
theorem sf_82t18 {L : Nat} {xs : Nat → Int} {vb : Bool} {d : Nat} {σ α : Nat → Nat → Int} {κ : Nat → Option Nat} {ρ : Nat}  (hI : qI σ α κ ρ)  : qm_T (qe L xs vb) (d + 2) 82 [.long (ql 262144)] (qw σ α κ ρ) (fun r w' => w' = qw σ α κ ρ ∧ ∃ v : Int, r = some (.int (qz v)) ∧ ((-2147483648) ≤ v ∧ v ≤ 2147483647) ∧ v = 18) := by
  refine qr_start (d := d + 1) qv_e82 (Nat.le_of_ble_eq_true rfl) ?_
  show qr_W (qe L xs vb) (d + 1) qx_e82 _ (0, [(0, .long (ql 262144))], [], _, 0, 0)
  refine qr_lload_n 1 rfl rfl rfl ?_
  refine qr_l2i 2 rfl rfl ?_
  refine qy_v 262144 (by decide) ?_
  refine qr_istore_n _ 3 rfl (by decide) rfl rfl ?_
  refine qr_iload_n 4 rfl rfl rfl ?_
  refine qr_if_ne 21 7 rfl rfl rfl (by decide) (fun h1 => ?_) (fun h => False.elim (by omega))
  refine qr_iload_n 22 rfl rfl rfl ?_
  refine qr_callN 25 rfl rfl rfl (sf_83t18 (d := d + 0) hI ) ?_
  rintro _ _ ⟨rfl, v2, rfl, hv2, hp3⟩
  show qr_W (qe L xs vb) (d + 1) qx_e82 _ (25, _, [.int (qz v2)], qw σ α κ ρ, 0, 0)
  refine qr_retI rfl rfl (by decide) (by decide) ?_
  exact ⟨rfl, v2, rfl, (qrg hv2 (by decide) (by decide)), by omega⟩

set_option maxHeartbeats 4000000 in
set_option maxRecDepth 20000 in
/-- java/lang/Long.numberOfTrailingZeros -/
theorem sf_82t19 {L : Nat} {xs : Nat → Int} {vb : Bool} {d : Nat} {σ α : Nat → Nat → Int} {κ : Nat → Option Nat} {ρ : Nat}  (hI : qI σ α κ ρ)  : qm_T (qe L xs vb) (d + 2) 82 [.long (ql 524288)] (qw σ α κ ρ) (fun r w' => w' = qw σ α κ ρ ∧ ∃ v : Int, r = some (.int (qz v)) ∧ ((-2147483648) ≤ v ∧ v ≤ 2147483647) ∧ v = 19) := by
  refine qr_start (d := d + 1) qv_e82 (Nat.le_of_ble_eq_true rfl) ?_
  show qr_W (qe L xs vb) (d + 1) qx_e82 _ (0, [(0, .long (ql 524288))], [], _, 0, 0)
  refine qr_lload_n 1 rfl rfl rfl ?_
  refine qr_l2i 2 rfl rfl ?_
  refine qy_v 524288 (by decide) ?_
  refine qr_istore_n _ 3 rfl (by decide) rfl rfl ?_
  refine qr_iload_n 4 rfl rfl rfl ?_
  refine qr_if_ne 21 7 rfl rfl rfl (by decide) (fun h1 => ?_) (fun h => False.elim (by omega))
  refine qr_iload_n 22 rfl rfl rfl ?_
  refine qr_callN 25 rfl rfl rfl (sf_83t19 (d := d + 0) hI ) ?_
  rintro _ _ ⟨rfl, v2, rfl, hv2, hp3⟩
  show qr_W (qe L xs vb) (d + 1) qx_e82 _ (25, _, [.int (qz v2)], qw σ α κ ρ, 0, 0)
  refine qr_retI rfl rfl (by decide) (by decide) ?_
  exact ⟨rfl, v2, rfl, (qrg hv2 (by decide) (by decide)), by omega⟩

set_option maxHeartbeats 4000000 in
set_option maxRecDepth 20000 in
/-- java/lang/Long.numberOfTrailingZeros -/
theorem sf_82t20 {L : Nat} {xs : Nat → Int} {vb : Bool} {d : Nat} {σ α : Nat → Nat → Int} {κ : Nat → Option Nat} {ρ : Nat}  (hI : qI σ α κ ρ)  : qm_T (qe L xs vb) (d + 2) 82 [.long (ql 1048576)] (qw σ α κ ρ) (fun r w' => w' = qw σ α κ ρ ∧ ∃ v : Int, r = some (.int (qz v)) ∧ ((-2147483648) ≤ v ∧ v ≤ 2147483647) ∧ v = 20) := by
  refine qr_start (d := d + 1) qv_e82 (Nat.le_of_ble_eq_true rfl) ?_
  show qr_W (qe L xs vb) (d + 1) qx_e82 _ (0, [(0, .long (ql 1048576))], [], _, 0, 0)
  refine qr_lload_n 1 rfl rfl rfl ?_
  refine qr_l2i 2 rfl rfl ?_
  refine qy_v 1048576 (by decide) ?_
  refine qr_istore_n _ 3 rfl (by decide) rfl rfl ?_
  refine qr_iload_n 4 rfl rfl rfl ?_
  refine qr_if_ne 21 7 rfl rfl rfl (by decide) (fun h1 => ?_) (fun h => False.elim (by omega))
  refine qr_iload_n 22 rfl rfl rfl ?_
  refine qr_callN 25 rfl rfl rfl (sf_83t20 (d := d + 0) hI ) ?_
  rintro _ _ ⟨rfl, v2, rfl, hv2, hp3⟩
  show qr_W (qe L xs vb) (d + 1) qx_e82 _ (25, _, [.int (qz v2)], qw σ α κ ρ, 0, 0)
  refine qr_retI rfl rfl (by decide) (by decide) ?_
  exact ⟨rfl, v2, rfl, (qrg hv2 (by decide) (by decide)), by omega⟩

set_option maxHeartbeats 4000000 in
set_option maxRecDepth 20000 in
/-- java/lang/Long.numberOfTrailingZeros -/
theorem sf_82t21 {L : Nat} {xs : Nat → Int} {vb : Bool} {d : Nat} {σ α : Nat → Nat → Int} {κ : Nat → Option Nat} {ρ : Nat}  (hI : qI σ α κ ρ)  : qm_T (qe L xs vb) (d + 2) 82 [.long (ql 2097152)] (qw σ α κ ρ) (fun r w' => w' = qw σ α κ ρ ∧ ∃ v : Int, r = some (.int (qz v)) ∧ ((-2147483648) ≤ v ∧ v ≤ 2147483647) ∧ v = 21) := by
  refine qr_start (d := d + 1) qv_e82 (Nat.le_of_ble_eq_true rfl) ?_
  show qr_W (qe L xs vb) (d + 1) qx_e82 _ (0, [(0, .long (ql 2097152))], [], _, 0, 0)
  refine qr_lload_n 1 rfl rfl rfl ?_
  refine qr_l2i 2 rfl rfl ?_
  refine qy_v 2097152 (by decide) ?_
  refine qr_istore_n _ 3 rfl (by decide) rfl rfl ?_
  refine qr_iload_n 4 rfl rfl rfl ?_
  refine qr_if_ne 21 7 rfl rfl rfl (by decide) (fun h1 => ?_) (fun h => False.elim (by omega))
  refine qr_iload_n 22 rfl rfl rfl ?_
  refine qr_callN 25 rfl rfl rfl (sf_83t21 (d := d + 0) hI ) ?_
  rintro _ _ ⟨rfl, v2, rfl, hv2, hp3⟩
  show qr_W (qe L xs vb) (d + 1) qx_e82 _ (25, _, [.int (qz v2)], qw σ α κ ρ, 0, 0)
  refine qr_retI rfl rfl (by decide) (by decide) ?_
  exact ⟨rfl, v2, rfl, (qrg hv2 (by decide) (by decide)), by omega⟩

set_option maxHeartbeats 4000000 in
set_option maxRecDepth 20000 in
/-- java/lang/Long.numberOfTrailingZeros -/
theorem sf_82t22 {L : Nat} {xs : Nat → Int} {vb : Bool} {d : Nat} {σ α : Nat → Nat → Int} {κ : Nat → Option Nat} {ρ : Nat}  (hI : qI σ α κ ρ)  : qm_T (qe L xs vb) (d + 2) 82 [.long (ql 4194304)] (qw σ α κ ρ) (fun r w' => w' = qw σ α κ ρ ∧ ∃ v : Int, r = some (.int (qz v)) ∧ ((-2147483648) ≤ v ∧ v ≤ 2147483647) ∧ v = 22) := by
  refine qr_start (d := d + 1) qv_e82 (Nat.le_of_ble_eq_true rfl) ?_
  show qr_W (qe L xs vb) (d + 1) qx_e82 _ (0, [(0, .long (ql 4194304))], [], _, 0, 0)
  refine qr_lload_n 1 rfl rfl rfl ?_
  refine qr_l2i 2 rfl rfl ?_
  refine qy_v 4194304 (by decide) ?_
  refine qr_istore_n _ 3 rfl (by decide) rfl rfl ?_
  refine qr_iload_n 4 rfl rfl rfl ?_
  refine qr_if_ne 21 7 rfl rfl rfl (by decide) (fun h1 => ?_) (fun h => False.elim (by omega))
  refine qr_iload_n 22 rfl rfl rfl ?_
  refine qr_callN 25 rfl rfl rfl (sf_83t22 (d := d + 0) hI ) ?_
  rintro _ _ ⟨rfl, v2, rfl, hv2, hp3⟩
  show qr_W (qe L xs vb) (d + 1) qx_e82 _ (25, _, [.int (qz v2)], qw σ α κ ρ, 0, 0)
  refine qr_retI rfl rfl (by decide) (by decide) ?_
  exact ⟨rfl, v2, rfl, (qrg hv2 (by decide) (by decide)), by omega⟩

set_option maxHeartbeats 4000000 in
set_option maxRecDepth 20000 in
/-- java/lang/Long.numberOfTrailingZeros -/
theorem sf_82t23 {L : Nat} {xs : Nat → Int} {vb : Bool} {d : Nat} {σ α : Nat → Nat → Int} {κ : Nat → Option Nat} {ρ : Nat}  (hI : qI σ α κ ρ)  : qm_T (qe L xs vb) (d + 2) 82 [.long (ql 8388608)] (qw σ α κ ρ) (fun r w' => w' = qw σ α κ ρ ∧ ∃ v : Int, r = some (.int (qz v)) ∧ ((-2147483648) ≤ v ∧ v ≤ 2147483647) ∧ v = 23) := by
  refine qr_start (d := d + 1) qv_e82 (Nat.le_of_ble_eq_true rfl) ?_
  show qr_W (qe L xs vb) (d + 1) qx_e82 _ (0, [(0, .long (ql 8388608))], [], _, 0, 0)
  refine qr_lload_n 1 rfl rfl rfl ?_
  refine qr_l2i 2 rfl rfl ?_
  refine qy_v 8388608 (by decide) ?_
  refine qr_istore_n _ 3 rfl (by decide) rfl rfl ?_
  refine qr_iload_n 4 rfl rfl rfl ?_
  refine qr_if_ne 21 7 rfl rfl rfl (by decide) (fun h1 => ?_) (fun h => False.elim (by omega))
  refine qr_iload_n 22 rfl rfl rfl ?_
  refine qr_callN 25 rfl rfl rfl (sf_83t23 (d := d + 0) hI ) ?_
  rintro _ _ ⟨rfl, v2, rfl, hv2, hp3⟩
  show qr_W (qe L xs vb) (d + 1) qx_e82 _ (25, _, [.int (qz v2)], qw σ α κ ρ, 0, 0)
  refine qr_retI rfl rfl (by decide) (by decide) ?_
  exact ⟨rfl, v2, rfl, (qrg hv2 (by decide) (by decide)), by omega⟩

set_option maxHeartbeats 4000000 in
set_option maxRecDepth 20000 in
/-- java/lang/Long.numberOfTrailingZeros -/
theorem sf_82t24 {L : Nat} {xs : Nat → Int} {vb : Bool} {d : Nat} {σ α : Nat → Nat → Int} {κ : Nat → Option Nat} {ρ : Nat}  (hI : qI σ α κ ρ)  : qm_T (qe L xs vb) (d + 2) 82 [.long (ql 16777216)] (qw σ α κ ρ) (fun r w' => w' = qw σ α κ ρ ∧ ∃ v : Int, r = some (.int (qz v)) ∧ ((-2147483648) ≤ v ∧ v ≤ 2147483647) ∧ v = 24) := by
  refine qr_start (d := d + 1) qv_e82 (Nat.le_of_ble_eq_true rfl) ?_
  show qr_W (qe L xs vb) (d + 1) qx_e82 _ (0, [(0, .long (ql 16777216))], [], _, 0, 0)
  refine qr_lload_n 1 rfl rfl rfl ?_
  refine qr_l2i 2 rfl rfl ?_
  refine qy_v 16777216 (by decide) ?_
  refine qr_istore_n _ 3 rfl (by decide) rfl rfl ?_
  refine qr_iload_n 4 rfl rfl rfl ?_
  refine qr_if_ne 21 7 rfl rfl rfl (by decide) (fun h1 => ?_) (fun h => False.elim (by omega))
  refine qr_iload_n 22 rfl rfl rfl ?_
  refine qr_callN 25 rfl rfl rfl (sf_83t24 (d := d + 0) hI ) ?_
  rintro _ _ ⟨rfl, v2, rfl, hv2, hp3⟩
  show qr_W (qe L xs vb) (d + 1) qx_e82 _ (25, _, [.int (qz v2)], qw σ α κ ρ, 0, 0)
  refine qr_retI rfl rfl (by decide) (by decide) ?_
  exact ⟨rfl, v2, rfl, (qrg hv2 (by decide) (by decide)), by omega⟩

set_option maxHeartbeats 4000000 in
set_option maxRecDepth 20000 in
/-- java/lang/Long.numberOfTrailingZeros -/
theorem sf_82t25 {L : Nat} {xs : Nat → Int} {vb : Bool} {d : Nat} {σ α : Nat → Nat → Int} {κ : Nat → Option Nat} {ρ : Nat}  (hI : qI σ α κ ρ)  : qm_T (qe L xs vb) (d + 2) 82 [.long (ql 33554432)] (qw σ α κ ρ) (fun r w' => w' = qw σ α κ ρ ∧ ∃ v : Int, r = some (.int (qz v)) ∧ ((-2147483648) ≤ v ∧ v ≤ 2147483647) ∧ v = 25) := by
  refine qr_start (d := d + 1) qv_e82 (Nat.le_of_ble_eq_true rfl) ?_
  show qr_W (qe L xs vb) (d + 1) qx_e82 _ (0, [(0, .long (ql 33554432))], [], _, 0, 0)
  refine qr_lload_n 1 rfl rfl rfl ?_
  refine qr_l2i 2 rfl rfl ?_
  refine qy_v 33554432 (by decide) ?_
  refine qr_istore_n _ 3 rfl (by decide) rfl rfl ?_
  refine qr_iload_n 4 rfl rfl rfl ?_
  refine qr_if_ne 21 7 rfl rfl rfl (by decide) (fun h1 => ?_) (fun h => False.elim (by omega))
  refine qr_iload_n 22 rfl rfl rfl ?_
  refine qr_callN 25 rfl rfl rfl (sf_83t25 (d := d + 0) hI ) ?_
  rintro _ _ ⟨rfl, v2, rfl, hv2, hp3⟩
  show qr_W (qe L xs vb) (d + 1) qx_e82 _ (25, _, [.int (qz v2)], qw σ α κ ρ, 0, 0)
  refine qr_retI rfl rfl (by decide) (by decide) ?_
  exact ⟨rfl, v2, rfl, (qrg hv2 (by decide) (by decide)), by omega⟩

set_option maxHeartbeats 4000000 in
set_option maxRecDepth 20000 in
/-- java/lang/Long.numberOfTrailingZeros -/
theorem sf_82t26 {L : Nat} {xs : Nat → Int} {vb : Bool} {d : Nat} {σ α : Nat → Nat → Int} {κ : Nat → Option Nat} {ρ : Nat}  (hI : qI σ α κ ρ)  : qm_T (qe L xs vb) (d + 2) 82 [.long (ql 67108864)] (qw σ α κ ρ) (fun r w' => w' = qw σ α κ ρ ∧ ∃ v : Int, r = some (.int (qz v)) ∧ ((-2147483648) ≤ v ∧ v ≤ 2147483647) ∧ v = 26) := by
  refine qr_start (d := d + 1) qv_e82 (Nat.le_of_ble_eq_true rfl) ?_
  show qr_W (qe L xs vb) (d + 1) qx_e82 _ (0, [(0, .long (ql 67108864))], [], _, 0, 0)
  refine qr_lload_n 1 rfl rfl rfl ?_
  refine qr_l2i 2 rfl rfl ?_
  refine qy_v 67108864 (by decide) ?_
  refine qr_istore_n _ 3 rfl (by decide) rfl rfl ?_
  refine qr_iload_n 4 rfl rfl rfl ?_
  refine qr_if_ne 21 7 rfl rfl rfl (by decide) (fun h1 => ?_) (fun h => False.elim (by omega))
  refine qr_iload_n 22 rfl rfl rfl ?_
  refine qr_callN 25 rfl rfl rfl (sf_83t26 (d := d + 0) hI ) ?_
  rintro _ _ ⟨rfl, v2, rfl, hv2, hp3⟩
  show qr_W (qe L xs vb) (d + 1) qx_e82 _ (25, _, [.int (qz v2)], qw σ α κ ρ, 0, 0)
  refine qr_retI rfl rfl (by decide) (by decide) ?_
  exact ⟨rfl, v2, rfl, (qrg hv2 (by decide) (by decide)), by omega⟩

set_option maxHeartbeats 4000000 in
set_option maxRecDepth 20000 in
/-- java/lang/Long.numberOfTrailingZeros -/
theorem sf_82t27 {L : Nat} {xs : Nat → Int} {vb : Bool} {d : Nat} {σ α : Nat → Nat → Int} {κ : Nat → Option Nat} {ρ : Nat}  (hI : qI σ α κ ρ)  : qm_T (qe L xs vb) (d + 2) 82 [.long (ql 134217728)] (qw σ α κ ρ) (fun r w' => w' = qw σ α κ ρ ∧ ∃ v : Int, r = some (.int (qz v)) ∧ ((-2147483648) ≤ v ∧ v ≤ 2147483647) ∧ v = 27) := by
  refine qr_start (d := d + 1) qv_e82 (Nat.le_of_ble_eq_true rfl) ?_
  show qr_W (qe L xs vb) (d + 1) qx_e82 _ (0, [(0, .long (ql 134217728))], [], _, 0, 0)
  refine qr_lload_n 1 rfl rfl rfl ?_
  refine qr_l2i 2 rfl rfl ?_
  refine qy_v 134217728 (by decide) ?_
  refine qr_istore_n _ 3 rfl (by decide) rfl rfl ?_
  refine qr_iload_n 4 rfl rfl rfl ?_
  refine qr_if_ne 21 7 rfl rfl rfl (by decide) (fun h1 => ?_) (fun h => False.elim (by omega))
  refine qr_iload_n 22 rfl rfl rfl ?_
  refine qr_callN 25 rfl rfl rfl (sf_83t27 (d := d + 0) hI ) ?_
  rintro _ _ ⟨rfl, v2, rfl, hv2, hp3⟩
  show qr_W (qe L xs vb) (d + 1) qx_e82 _ (25, _, [.int (qz v2)], qw σ α κ ρ, 0, 0)
  refine qr_retI rfl rfl (by decide) (by decide) ?_
  exact ⟨rfl, v2, rfl, (qrg hv2 (by decide) (by decide)), by omega⟩

set_option maxHeartbeats 4000000 in
set_option maxRecDepth 20000 in
/-- java/lang/Long.numberOfTrailingZeros -/
theorem sf_82t28 {L : Nat} {xs : Nat → Int} {vb : Bool} {d : Nat} {σ α : Nat → Nat → Int} {κ : Nat → Option Nat} {ρ : Nat}  (hI : qI σ α κ ρ)  : qm_T (qe L xs vb) (d + 2) 82 [.long (ql 268435456)] (qw σ α κ ρ) (fun r w' => w' = qw σ α κ ρ ∧ ∃ v : Int, r = some (.int (qz v)) ∧ ((-2147483648) ≤ v ∧ v ≤ 2147483647) ∧ v = 28) := by
  refine qr_start (d := d + 1) qv_e82 (Nat.le_of_ble_eq_true rfl) ?_
  show qr_W (qe L xs vb) (d + 1) qx_e82 _ (0, [(0, .long (ql 268435456))], [], _, 0, 0)
  refine qr_lload_n 1 rfl rfl rfl ?_
  refine qr_l2i 2 rfl rfl ?_
  refine qy_v 268435456 (by decide) ?_
  refine qr_istore_n _ 3 rfl (by decide) rfl rfl ?_
  refine qr_iload_n 4 rfl rfl rfl ?_
  refine qr_if_ne 21 7 rfl rfl rfl (by decide) (fun h1 => ?_) (fun h => False.elim (by omega))
  refine qr_iload_n 22 rfl rfl rfl ?_
  refine qr_callN 25 rfl rfl rfl (sf_83t28 (d := d + 0) hI ) ?_
  rintro _ _ ⟨rfl, v2, rfl, hv2, hp3⟩
  show qr_W (qe L xs vb) (d + 1) qx_e82 _ (25, _, [.int (qz v2)], qw σ α κ ρ, 0, 0)
  refine qr_retI rfl rfl (by decide) (by decide) ?_
  exact ⟨rfl, v2, rfl, (qrg hv2 (by decide) (by decide)), by omega⟩

set_option maxHeartbeats 4000000 in
set_option maxRecDepth 20000 in
/-- java/lang/Long.numberOfTrailingZeros -/
theorem sf_82t29 {L : Nat} {xs : Nat → Int} {vb : Bool} {d : Nat} {σ α : Nat → Nat → Int} {κ : Nat → Option Nat} {ρ : Nat}  (hI : qI σ α κ ρ)  : qm_T (qe L xs vb) (d + 2) 82 [.long (ql 536870912)] (qw σ α κ ρ) (fun r w' => w' = qw σ α κ ρ ∧ ∃ v : Int, r = some (.int (qz v)) ∧ ((-2147483648) ≤ v ∧ v ≤ 2147483647) ∧ v = 29) := by
  refine qr_start (d := d + 1) qv_e82 (Nat.le_of_ble_eq_true rfl) ?_
  show qr_W (qe L xs vb) (d + 1) qx_e82 _ (0, [(0, .long (ql 536870912))], [], _, 0, 0)
  refine qr_lload_n 1 rfl rfl rfl ?_
  refine qr_l2i 2 rfl rfl ?_
  refine qy_v 536870912 (by decide) ?_
  refine qr_istore_n _ 3 rfl (by decide) rfl rfl ?_
  refine qr_iload_n 4 rfl rfl rfl ?_
  refine qr_if_ne 21 7 rfl rfl rfl (by decide) (fun h1 => ?_) (fun h => False.elim (by omega))
  refine qr_iload_n 22 rfl rfl rfl ?_
  refine qr_callN 25 rfl rfl rfl (sf_83t29 (d := d + 0) hI ) ?_
  rintro _ _ ⟨rfl, v2, rfl, hv2, hp3⟩
  show qr_W (qe L xs vb) (d + 1) qx_e82 _ (25, _, [.int (qz v2)], qw σ α κ ρ, 0, 0)
  refine qr_retI rfl rfl (by decide) (by decide) ?_
  exact ⟨rfl, v2, rfl, (qrg hv2 (by decide) (by decide)), by omega⟩

set_option maxHeartbeats 4000000 in
set_option maxRecDepth 20000 in
/-- java/lang/Long.numberOfTrailingZeros -/
theorem sf_82t30 {L : Nat} {xs : Nat → Int} {vb : Bool} {d : Nat} {σ α : Nat → Nat → Int} {κ : Nat → Option Nat} {ρ : Nat}  (hI : qI σ α κ ρ)  : qm_T (qe L xs vb) (d + 2) 82 [.long (ql 1073741824)] (qw σ α κ ρ) (fun r w' => w' = qw σ α κ ρ ∧ ∃ v : Int, r = some (.int (qz v)) ∧ ((-2147483648) ≤ v ∧ v ≤ 2147483647) ∧ v = 30) := by
  refine qr_start (d := d + 1) qv_e82 (Nat.le_of_ble_eq_true rfl) ?_
  show qr_W (qe L xs vb) (d + 1) qx_e82 _ (0, [(0, .long (ql 1073741824))], [], _, 0, 0)
  refine qr_lload_n 1 rfl rfl rfl ?_
  refine qr_l2i 2 rfl rfl ?_
  refine qy_v 1073741824 (by decide) ?_
  refine qr_istore_n _ 3 rfl (by decide) rfl rfl ?_
  refine qr_iload_n 4 rfl rfl rfl ?_
  refine qr_if_ne 21 7 rfl rfl rfl (by decide) (fun h1 => ?_) (fun h => False.elim (by omega))
  refine qr_iload_n 22 rfl rfl rfl ?_
  refine qr_callN 25 rfl rfl rfl (sf_83t30 (d := d + 0) hI ) ?_
  rintro _ _ ⟨rfl, v2, rfl, hv2, hp3⟩
  show qr_W (qe L xs vb) (d + 1) qx_e82 _ (25, _, [.int (qz v2)], qw σ α κ ρ, 0, 0)
  refine qr_retI rfl rfl (by decide) (by decide) ?_
  exact ⟨rfl, v2, rfl, (qrg hv2 (by decide) (by decide)), by omega⟩

set_option maxHeartbeats 4000000 in
set_option maxRecDepth 20000 in
/-- java/lang/Long.numberOfTrailingZeros -/
theorem sf_82t31 {L : Nat} {xs : Nat → Int} {vb : Bool} {d : Nat} {σ α : Nat → Nat → Int} {κ : Nat → Option Nat} {ρ : Nat}  (hI : qI σ α κ ρ)  : qm_T (qe L xs vb) (d + 2) 82 [.long (ql 2147483648)] (qw σ α κ ρ) (fun r w' => w' = qw σ α κ ρ ∧ ∃ v : Int, r = some (.int (qz v)) ∧ ((-2147483648) ≤ v ∧ v ≤ 2147483647) ∧ v = 31) := by
  refine qr_start (d := d + 1) qv_e82 (Nat.le_of_ble_eq_true rfl) ?_
  show qr_W (qe L xs vb) (d + 1) qx_e82 _ (0, [(0, .long (ql 2147483648))], [], _, 0, 0)
  refine qr_lload_n 1 rfl rfl rfl ?_
  refine qr_l2i 2 rfl rfl ?_
  refine qy_vz (-2147483648) (by decide) ?_
  refine qr_istore_n _ 3 rfl (by decide) rfl rfl ?_
  refine qr_iload_n 4 rfl rfl rfl ?_
  refine qr_if_ne 21 7 rfl rfl rfl (by decide) (fun h1 => ?_) (fun h => False.elim (by omega))
  refine qr_iload_n 22 rfl rfl rfl ?_
  refine qr_callN 25 rfl rfl rfl (sf_83t31 (d := d + 0) hI ) ?_
  rintro _ _ ⟨rfl, v2, rfl, hv2, hp3⟩
  show qr_W (qe L xs vb) (d + 1) qx_e82 _ (25, _, [.int (qz v2)], qw σ α κ ρ, 0, 0)
  refine qr_retI rfl rfl (by decide) (by decide) ?_
  exact ⟨rfl, v2, rfl, (qrg hv2 (by decide) (by decide)), by omega⟩

set_option maxHeartbeats 4000000 in
set_option maxRecDepth 20000 in
/-- java/lang/Long.numberOfTrailingZeros -/
theorem sf_82t32 {L : Nat} {xs : Nat → Int} {vb : Bool} {d : Nat} {σ α : Nat → Nat → Int} {κ : Nat → Option Nat} {ρ : Nat}  (hI : qI σ α κ ρ)  : qm_T (qe L xs vb) (d + 2) 82 [.long (ql 4294967296)] (qw σ α κ ρ) (fun r w' => w' = qw σ α κ ρ ∧ ∃ v : Int, r = some (.int (qz v)) ∧ ((-2147483648) ≤ v ∧ v ≤ 2147483647) ∧ v = 32) := by
  refine qr_start (d := d + 1) qv_e82 (Nat.le_of_ble_eq_true rfl) ?_
  show qr_W (qe L xs vb) (d + 1) qx_e82 _ (0, [(0, .long (ql 4294967296))], [], _, 0, 0)
  refine qr_lload_n 1 rfl rfl rfl ?_
  refine qr_l2i 2 rfl rfl ?_
  refine qy_vz 0 (by decide) ?_
  refine qr_istore_n _ 3 rfl (by decide) rfl rfl ?_
  refine qr_iload_n 4 rfl rfl rfl ?_
  refine qr_if_ne 21 7 rfl rfl rfl (by decide) (fun h => False.elim (by omega)) (fun h1 => ?_)
  refine qr_bipush 9 rfl (by decide) rfl ?_
  refine qr_lload_n 10 rfl rfl rfl ?_
  refine qr_bipush 12 rfl (by decide) rfl ?_
  refine qr_lushr 13 rfl rfl ?_
  refine qy_vl 1 rfl ?_
  refine qr_l2i 14 rfl rfl ?_
  refine qy_v 1 (by decide) ?_
  refine qr_callN 17 rfl rfl rfl (sf_83t0 (d := d + 0) hI ) ?_
  rintro _ _ ⟨rfl, v2, rfl, hv2, hp3⟩
  show qr_W (qe L xs vb) (d + 1) qx_e82 _ (17, _, [.int (qz v2), .int (qz 32)], qw σ α κ ρ, 0, 0)
  refine qr_iadd 18 rfl rfl ?_
  refine qr_goto 25 rfl rfl ?_
  refine qr_retI rfl rfl (by decide) (by decide) ?_
  exact ⟨rfl, (32 + v2), rfl, (by omega), by omega⟩

set_option maxHeartbeats 4000000 in
set_option maxRecDepth 20000 in
/-- java/lang/Long.numberOfTrailingZeros -/
theorem sf_82t33 {L : Nat} {xs : Nat → Int} {vb : Bool} {d : Nat} {σ α : Nat → Nat → Int} {κ : Nat → Option Nat} {ρ : Nat}  (hI : qI σ α κ ρ)  : qm_T (qe L xs vb) (d + 2) 82 [.long (ql 8589934592)] (qw σ α κ ρ) (fun r w' => w' = qw σ α κ ρ ∧ ∃ v : Int, r = some (.int (qz v)) ∧ ((-2147483648) ≤ v ∧ v ≤ 2147483647) ∧ v = 33) := by
  refine qr_start (d := d + 1) qv_e82 (Nat.le_of_ble_eq_true rfl) ?_
  show qr_W (qe L xs vb) (d + 1) qx_e82 _ (0, [(0, .long (ql 8589934592))], [], _, 0, 0)
  refine qr_lload_n 1 rfl rfl rfl ?_
  refine qr_l2i 2 rfl rfl ?_
  refine qy_vz 0 (by decide) ?_
  refine qr_istore_n _ 3 rfl (by decide) rfl rfl ?_
  refine qr_iload_n 4 rfl rfl rfl ?_
  refine qr_if_ne 21 7 rfl rfl rfl (by decide) (fun h => False.elim (by omega)) (fun h1 => ?_)
  refine qr_bipush 9 rfl (by decide) rfl ?_
  refine qr_lload_n 10 rfl rfl rfl ?_
  refine qr_bipush 12 rfl (by decide) rfl ?_
  refine qr_lushr 13 rfl rfl ?_
  refine qy_vl 2 rfl ?_
  refine qr_l2i 14 rfl rfl ?_
  refine qy_v 2 (by decide) ?_
  refine qr_callN 17 rfl rfl rfl (sf_83t1 (d := d + 0) hI ) ?_
  rintro _ _ ⟨rfl, v2, rfl, hv2, hp3⟩
  show qr_W (qe L xs vb) (d + 1) qx_e82 _ (17, _, [.int (qz v2), .int (qz 32)], qw σ α κ ρ, 0, 0)
  refine qr_iadd 18 rfl rfl ?_
  refine qr_goto 25 rfl rfl ?_
  refine qr_retI rfl rfl (by decide) (by decide) ?_
  exact ⟨rfl, (32 + v2), rfl, (by omega), by omega⟩

set_option maxHeartbeats 4000000 in
set_option maxRecDepth 20000 in
/-- java/lang/Long.numberOfTrailingZeros -/
theorem sf_82t34 {L : Nat} {xs : Nat → Int} {vb : Bool} {d : Nat} {σ α : Nat → Nat → Int} {κ : Nat → Option Nat} {ρ : Nat}  (hI : qI σ α κ ρ)  : qm_T (qe L xs vb) (d + 2) 82 [.long (ql 17179869184)] (qw σ α κ ρ) (fun r w' => w' = qw σ α κ ρ ∧ ∃ v : Int, r = some (.int (qz v)) ∧ ((-2147483648) ≤ v ∧ v ≤ 2147483647) ∧ v = 34) := by
  refine qr_start (d := d + 1) qv_e82 (Nat.le_of_ble_eq_true rfl) ?_
  show qr_W (qe L xs vb) (d + 1) qx_e82 _ (0, [(0, .long (ql 17179869184))], [], _, 0, 0)
  refine qr_lload_n 1 rfl rfl rfl ?_
  refine qr_l2i 2 rfl rfl ?_
  refine qy_vz 0 (by decide) ?_
  refine qr_istore_n _ 3 rfl (by decide) rfl rfl ?_
  refine qr_iload_n 4 rfl rfl rfl ?_
  refine qr_if_ne 21 7 rfl rfl rfl (by decide) (fun h => False.elim (by omega)) (fun h1 => ?_)
  refine qr_bipush 9 rfl (by decide) rfl ?_
  refine qr_lload_n 10 rfl rfl rfl ?_
  refine qr_bipush 12 rfl (by decide) rfl ?_
  refine qr_lushr 13 rfl rfl ?_
  refine qy_vl 4 rfl ?_
  refine qr_l2i 14 rfl rfl ?_
  refine qy_v 4 (by decide) ?_
  refine qr_callN 17 rfl rfl rfl (sf_83t2 (d := d + 0) hI ) ?_
  rintro _ _ ⟨rfl, v2, rfl, hv2, hp3⟩
  show qr_W (qe L xs vb) (d + 1) qx_e82 _ (17, _, [.int (qz v2), .int (qz 32)], qw σ α κ ρ, 0, 0)
  refine qr_iadd 18 rfl rfl ?_
  refine qr_goto 25 rfl rfl ?_
  refine qr_retI rfl rfl (by decide) (by decide) ?_
  exact ⟨rfl, (32 + v2), rfl, (by omega), by omega⟩

set_option maxHeartbeats 4000000 in
set_option maxRecDepth 20000 in
/-- java/lang/Long.numberOfTrailingZeros -/
theorem sf_82t35 {L : Nat} {xs : Nat → Int} {vb : Bool} {d : Nat} {σ α : Nat → Nat → Int} {κ : Nat → Option Nat} {ρ : Nat}  (hI : qI σ α κ ρ)  : qm_T (qe L xs vb) (d + 2) 82 [.long (ql 34359738368)] (qw σ α κ ρ) (fun r w' => w' = qw σ α κ ρ ∧ ∃ v : Int, r = some (.int (qz v)) ∧ ((-2147483648) ≤ v ∧ v ≤ 2147483647) ∧ v = 35) := by
  refine qr_start (d := d + 1) qv_e82 (Nat.le_of_ble_eq_true rfl) ?_
  show qr_W (qe L xs vb) (d + 1) qx_e82 _ (0, [(0, .long (ql 34359738368))], [], _, 0, 0)
  refine qr_lload_n 1 rfl rfl rfl ?_
  refine qr_l2i 2 rfl rfl ?_
  refine qy_vz 0 (by decide) ?_
  refine qr_istore_n _ 3 rfl (by decide) rfl rfl ?_
  refine qr_iload_n 4 rfl rfl rfl ?_
  refine qr_if_ne 21 7 rfl rfl rfl (by decide) (fun h => False.elim (by omega)) (fun h1 => ?_)
  refine qr_bipush 9 rfl (by decide) rfl ?_
  refine qr_lload_n 10 rfl rfl rfl ?_
  refine qr_bipush 12 rfl (by decide) rfl ?_
  refine qr_lushr 13 rfl rfl ?_
  refine qy_vl 8 rfl ?_
  refine qr_l2i 14 rfl rfl ?_
  refine qy_v 8 (by decide) ?_
  refine qr_callN 17 rfl rfl rfl (sf_83t3 (d := d + 0) hI ) ?_
  rintro _ _ ⟨rfl, v2, rfl, hv2, hp3⟩
  show qr_W (qe L xs vb) (d + 1) qx_e82 _ (17, _, [.int (qz v2), .int (qz 32)], qw σ α κ ρ, 0, 0)
  refine qr_iadd 18 rfl rfl ?_
  refine qr_goto 25 rfl rfl ?_
  refine qr_retI rfl rfl (by decide) (by decide) ?_
  exact ⟨rfl, (32 + v2), rfl, (by omega), by omega⟩

set_option maxHeartbeats 4000000 in
set_option maxRecDepth 20000 in
/-- java/lang/Long.numberOfTrailingZeros -/
theorem sf_82t36 {L : Nat} {xs : Nat → Int} {vb : Bool} {d : Nat} {σ α : Nat → Nat → Int} {κ : Nat → Option Nat} {ρ : Nat}  (hI : qI σ α κ ρ)  : qm_T (qe L xs vb) (d + 2) 82 [.long (ql 68719476736)] (qw σ α κ ρ) (fun r w' => w' = qw σ α κ ρ ∧ ∃ v : Int, r = some (.int (qz v)) ∧ ((-2147483648) ≤ v ∧ v ≤ 2147483647) ∧ v = 36) := by
  refine qr_start (d := d + 1) qv_e82 (Nat.le_of_ble_eq_true rfl) ?_
  show qr_W (qe L xs vb) (d + 1) qx_e82 _ (0, [(0, .long (ql 68719476736))], [], _, 0, 0)
  refine qr_lload_n 1 rfl rfl rfl ?_
  refine qr_l2i 2 rfl rfl ?_
  refine qy_vz 0 (by decide) ?_
  refine qr_istore_n _ 3 rfl (by decide) rfl rfl ?_
  refine qr_iload_n 4 rfl rfl rfl ?_
  refine qr_if_ne 21 7 rfl rfl rfl (by decide) (fun h => False.elim (by omega)) (fun h1 => ?_)
  refine qr_bipush 9 rfl (by decide) rfl ?_
  refine qr_lload_n 10 rfl rfl rfl ?_
  refine qr_bipush 12 rfl (by decide) rfl ?_
  refine qr_lushr 13 rfl rfl ?_
  refine qy_vl 16 rfl ?_
  refine qr_l2i 14 rfl rfl ?_
  refine qy_v 16 (by decide) ?_
  refine qr_callN 17 rfl rfl rfl (sf_83t4 (d := d + 0) hI ) ?_
  rintro _ _ ⟨rfl, v2, rfl, hv2, hp3⟩
  show qr_W (qe L xs vb) (d + 1) qx_e82 _ (17, _, [.int (qz v2), .int (qz 32)], qw σ α κ ρ, 0, 0)
  refine qr_iadd 18 rfl rfl ?_
  refine qr_goto 25 rfl rfl ?_
  refine qr_retI rfl rfl (by decide) (by decide) ?_
  exact ⟨rfl, (32 + v2), rfl, (by omega), by omega⟩

set_option maxHeartbeats 4000000 in
set_option maxRecDepth 20000 in
/-- java/lang/Long.numberOfTrailingZeros -/
theorem sf_82t37 {L : Nat} {xs : Nat → Int} {vb : Bool} {d : Nat} {σ α : Nat → Nat → Int} {κ : Nat → Option Nat} {ρ : Nat}  (hI : qI σ α κ ρ)  : qm_T (qe L xs vb) (d + 2) 82 [.long (ql 137438953472)] (qw σ α κ ρ) (fun r w' => w' = qw σ α κ ρ ∧ ∃ v : Int, r = some (.int (qz v)) ∧ ((-2147483648) ≤ v ∧ v ≤ 2147483647) ∧ v = 37) := by
  refine qr_start (d := d + 1) qv_e82 (Nat.le_of_ble_eq_true rfl) ?_
  show qr_W (qe L xs vb) (d + 1) qx_e82 _ (0, [(0, .long (ql 137438953472))], [], _, 0, 0)
  refine qr_lload_n 1 rfl rfl rfl ?_
  refine qr_l2i 2 rfl rfl ?_
  refine qy_vz 0 (by decide) ?_
  refine qr_istore_n _ 3 rfl (by decide) rfl rfl ?_
  refine qr_iload_n 4 rfl rfl rfl ?_
  refine qr_if_ne 21 7 rfl rfl rfl (by decide) (fun h => False.elim (by omega)) (fun h1 => ?_)
  refine qr_bipush 9 rfl (by decide) rfl ?_
  refine qr_lload_n 10 rfl rfl rfl ?_
  refine qr_bipush 12 rfl (by decide) rfl ?_
  refine qr_lushr 13 rfl rfl ?_
  refine qy_vl 32 rfl ?_
  refine qr_l2i 14 rfl rfl ?_
  refine qy_v 32 (by decide) ?_
  refine qr_callN 17 rfl rfl rfl (sf_83t5 (d := d + 0) hI ) ?_
  rintro _ _ ⟨rfl, v2, rfl, hv2, hp3⟩
  show qr_W (qe L xs vb) (d + 1) qx_e82 _ (17, _, [.int (qz v2), .int (qz 32)], qw σ α κ ρ, 0, 0)
  refine qr_iadd 18 rfl rfl ?_
  refine qr_goto 25 rfl rfl ?_
  refine qr_retI rfl rfl (by decide) (by decide) ?_
  exact ⟨rfl, (32 + v2), rfl, (by omega), by omega⟩

set_option maxHeartbeats 4000000 in
set_option maxRecDepth 20000 in
/-- java/lang/Long.numberOfTrailingZeros -/
theorem sf_82t38 {L : Nat} {xs : Nat → Int} {vb : Bool} {d : Nat} {σ α : Nat → Nat → Int} {κ : Nat → Option Nat} {ρ : Nat}  (hI : qI σ α κ ρ)  : qm_T (qe L xs vb) (d + 2) 82 [.long (ql 274877906944)] (qw σ α κ ρ) (fun r w' => w' = qw σ α κ ρ ∧ ∃ v : Int, r = some (.int (qz v)) ∧ ((-2147483648) ≤ v ∧ v ≤ 2147483647) ∧ v = 38) := by
  refine qr_start (d := d + 1) qv_e82 (Nat.le_of_ble_eq_true rfl) ?_
  show qr_W (qe L xs vb) (d + 1) qx_e82 _ (0, [(0, .long (ql 274877906944))], [], _, 0, 0)
  refine qr_lload_n 1 rfl rfl rfl ?_
  refine qr_l2i 2 rfl rfl ?_
  refine qy_vz 0 (by decide) ?_
  refine qr_istore_n _ 3 rfl (by decide) rfl rfl ?_
  refine qr_iload_n 4 rfl rfl rfl ?_
  refine qr_if_ne 21 7 rfl rfl rfl (by decide) (fun h => False.elim (by omega)) (fun h1 => ?_)
  refine qr_bipush 9 rfl (by decide) rfl ?_
  refine qr_lload_n 10 rfl rfl rfl ?_
  refine qr_bipush 12 rfl (by decide) rfl ?_
  refine qr_lushr 13 rfl rfl ?_
  refine qy_vl 64 rfl ?_
  refine qr_l2i 14 rfl rfl ?_
  refine qy_v 64 (by decide) ?_
  refine qr_callN 17 rfl rfl rfl (sf_83t6 (d := d + 0) hI ) ?_
  rintro _ _ ⟨rfl, v2, rfl, hv2, hp3⟩
  show qr_W (qe L xs vb) (d + 1) qx_e82 _ (17, _, [.int (qz v2), .int (qz 32)], qw σ α κ ρ, 0, 0)
  refine qr_iadd 18 rfl rfl ?_
  refine qr_goto 25 rfl rfl ?_
  refine qr_retI rfl rfl (by decide) (by decide) ?_
  exact ⟨rfl, (32 + v2), rfl, (by omega), by omega⟩

set_option maxHeartbeats 4000000 in
set_option maxRecDepth 20000 in
/-- java/lang/Long.numberOfTrailingZeros -/
theorem sf_82t39 {L : Nat} {xs : Nat → Int} {vb : Bool} {d : Nat} {σ α : Nat → Nat → Int} {κ : Nat → Option Nat} {ρ : Nat}  (hI : qI σ α κ ρ)  : qm_T (qe L xs vb) (d + 2) 82 [.long (ql 549755813888)] (qw σ α κ ρ) (fun r w' => w' = qw σ α κ ρ ∧ ∃ v : Int, r = some (.int (qz v)) ∧ ((-2147483648) ≤ v ∧ v ≤ 2147483647) ∧ v = 39) := by
  refine qr_start (d := d + 1) qv_e82 (Nat.le_of_ble_eq_true rfl) ?_
  show qr_W (qe L xs vb) (d + 1) qx_e82 _ (0, [(0, .long (ql 549755813888))], [], _, 0, 0)
  refine qr_lload_n 1 rfl rfl rfl ?_
  refine qr_l2i 2 rfl rfl ?_
  refine qy_vz 0 (by decide) ?_
  refine qr_istore_n _ 3 rfl (by decide) rfl rfl ?_
  refine qr_iload_n 4 rfl rfl rfl ?_
  refine qr_if_ne 21 7 rfl rfl rfl (by decide) (fun h => False.elim (by omega)) (fun h1 => ?_)
  refine qr_bipush 9 rfl (by decide) rfl ?_
  refine qr_lload_n 10 rfl rfl rfl ?_
  refine qr_bipush 12 rfl (by decide) rfl ?_
  refine qr_lushr 13 rfl rfl ?_
  refine qy_vl 128 rfl ?_
  refine qr_l2i 14 rfl rfl ?_
  refine qy_v 128 (by decide) ?_
  refine qr_callN 17 rfl rfl rfl (sf_83t7 (d := d + 0) hI ) ?_
  rintro _ _ ⟨rfl, v2, rfl, hv2, hp3⟩
  show qr_W (qe L xs vb) (d + 1) qx_e82 _ (17, _, [.int (qz v2), .int (qz 32)], qw σ α κ ρ, 0, 0)
  refine qr_iadd 18 rfl rfl ?_
  refine qr_goto 25 rfl rfl ?_
  refine qr_retI rfl rfl (by decide) (by decide) ?_
  exact ⟨rfl, (32 + v2), rfl, (by omega), by omega⟩

set_option maxHeartbeats 4000000 in
set_option maxRecDepth 20000 in
/-- java/lang/Long.numberOfTrailingZeros -/
theorem sf_82t40 {L : Nat} {xs : Nat → Int} {vb : Bool} {d : Nat} {σ α : Nat → Nat → Int} {κ : Nat → Option Nat} {ρ : Nat}  (hI : qI σ α κ ρ)  : qm_T (qe L xs vb) (d + 2) 82 [.long (ql 1099511627776)] (qw σ α κ ρ) (fun r w' => w' = qw σ α κ ρ ∧ ∃ v : Int, r = some (.int (qz v)) ∧ ((-2147483648) ≤ v ∧ v ≤ 2147483647) ∧ v = 40) := by
  refine qr_start (d := d + 1) qv_e82 (Nat.le_of_ble_eq_true rfl) ?_
  show qr_W (qe L xs vb) (d + 1) qx_e82 _ (0, [(0, .long (ql 1099511627776))], [], _, 0, 0)
  refine qr_lload_n 1 rfl rfl rfl ?_
  refine qr_l2i 2 rfl rfl ?_
  refine qy_vz 0 (by decide) ?_
  refine qr_istore_n _ 3 rfl (by decide) rfl rfl ?_
  refine qr_iload_n 4 rfl rfl rfl ?_
  refine qr_if_ne 21 7 rfl rfl rfl (by decide) (fun h => False.elim (by omega)) (fun h1 => ?_)
  refine qr_bipush 9 rfl (by decide) rfl ?_
  refine qr_lload_n 10 rfl rfl rfl ?_
  refine qr_bipush 12 rfl (by decide) rfl ?_
  refine qr_lushr 13 rfl rfl ?_
  refine qy_vl 256 rfl ?_
  refine qr_l2i 14 rfl rfl ?_
  refine qy_v 256 (by decide) ?_
  refine qr_callN 17 rfl rfl rfl (sf_83t8 (d := d + 0) hI ) ?_
  rintro _ _ ⟨rfl, v2, rfl, hv2, hp3⟩
  show qr_W (qe L xs vb) (d + 1) qx_e82 _ (17, _, [.int (qz v2), .int (qz 32)], qw σ α κ ρ, 0, 0)
  refine qr_iadd 18 rfl rfl ?_
  refine qr_goto 25 rfl rfl ?_
  refine qr_retI rfl rfl (by decide) (by decide) ?_
  exact ⟨rfl, (32 + v2), rfl, (by omega), by omega⟩

set_option maxHeartbeats 4000000 in
set_option maxRecDepth 20000 in
/-- java/lang/Long.numberOfTrailingZeros -/
theorem sf_82t41 {L : Nat} {xs : Nat → Int} {vb : Bool} {d : Nat} {σ α : Nat → Nat → Int} {κ : Nat → Option Nat} {ρ : Nat}  (hI : qI σ α κ ρ)  : qm_T (qe L xs vb) (d + 2) 82 [.long (ql 2199023255552)] (qw σ α κ ρ) (fun r w' => w' = qw σ α κ ρ ∧ ∃ v : Int, r = some (.int (qz v)) ∧ ((-2147483648) ≤ v ∧ v ≤ 2147483647) ∧ v = 41) := by
  refine qr_start (d := d + 1) qv_e82 (Nat.le_of_ble_eq_true rfl) ?_
  show qr_W (qe L xs vb) (d + 1) qx_e82 _ (0, [(0, .long (ql 2199023255552))], [], _, 0, 0)
  refine qr_lload_n 1 rfl rfl rfl ?_
  refine qr_l2i 2 rfl rfl ?_
  refine qy_vz 0 (by decide) ?_
  refine qr_istore_n _ 3 rfl (by decide) rfl rfl ?_
  refine qr_iload_n 4 rfl rfl rfl ?_
  refine qr_if_ne 21 7 rfl rfl rfl (by decide) (fun h => False.elim (by omega)) (fun h1 => ?_)
  refine qr_bipush 9 rfl (by decide) rfl ?_
  refine qr_lload_n 10 rfl rfl rfl ?_
  refine qr_bipush 12 rfl (by decide) rfl ?_
  refine qr_lushr 13 rfl rfl ?_
  refine qy_vl 512 rfl ?_
  refine qr_l2i 14 rfl rfl ?_
  refine qy_v 512 (by decide) ?_
  refine qr_callN 17 rfl rfl rfl (sf_83t9 (d := d + 0) hI ) ?_
  rintro _ _ ⟨rfl, v2, rfl, hv2, hp3⟩
  show qr_W (qe L xs vb) (d + 1) qx_e82 _ (17, _, [.int (qz v2), .int (qz 32)], qw σ α κ ρ, 0, 0)
  refine qr_iadd 18 rfl rfl ?_
  refine qr_goto 25 rfl rfl ?_
  refine qr_retI rfl rfl (by decide) (by decide) ?_
  exact ⟨rfl, (32 + v2), rfl, (by omega), by omega⟩

set_option maxHeartbeats 4000000 in
set_option maxRecDepth 20000 in
/-- java/lang/Long.numberOfTrailingZeros -/
theorem sf_82t42 {L : Nat} {xs : Nat → Int} {vb : Bool} {d : Nat} {σ α : Nat → Nat → Int} {κ : Nat → Option Nat} {ρ : Nat}  (hI : qI σ α κ ρ)  : qm_T (qe L xs vb) (d + 2) 82 [.long (ql 4398046511104)] (qw σ α κ ρ) (fun r w' => w' = qw σ α κ ρ ∧ ∃ v : Int, r = some (.int (qz v)) ∧ ((-2147483648) ≤ v ∧ v ≤ 2147483647) ∧ v = 42) := by
  refine qr_start (d := d + 1) qv_e82 (Nat.le_of_ble_eq_true rfl) ?_
  show qr_W (qe L xs vb) (d + 1) qx_e82 _ (0, [(0, .long (ql 4398046511104))], [], _, 0, 0)
  refine qr_lload_n 1 rfl rfl rfl ?_
  refine qr_l2i 2 rfl rfl ?_
  refine qy_vz 0 (by decide) ?_
  refine qr_istore_n _ 3 rfl (by decide) rfl rfl ?_
  refine qr_iload_n 4 rfl rfl rfl ?_
  refine qr_if_ne 21 7 rfl rfl rfl (by decide) (fun h => False.elim (by omega)) (fun h1 => ?_)
  refine qr_bipush 9 rfl (by decide) rfl ?_
  refine qr_lload_n 10 rfl rfl rfl ?_
  refine qr_bipush 12 rfl (by decide) rfl ?_
  refine qr_lushr 13 rfl rfl ?_
  refine qy_vl 1024 rfl ?_
  refine qr_l2i 14 rfl rfl ?_
  refine qy_v 1024 (by decide) ?_
  refine qr_callN 17 rfl rfl rfl (sf_83t10 (d := d + 0) hI ) ?_
  rintro _ _ ⟨rfl, v2, rfl, hv2, hp3⟩
  show qr_W (qe L xs vb) (d + 1) qx_e82 _ (17, _, [.int (qz v2), .int (qz 32)], qw σ α κ ρ, 0, 0)
  refine qr_iadd 18 rfl rfl ?_
  refine qr_goto 25 rfl rfl ?_
  refine qr_retI rfl rfl (by decide) (by decide) ?_
  exact ⟨rfl, (32 + v2), rfl, (by omega), by omega⟩

set_option maxHeartbeats 4000000 in
set_option maxRecDepth 20000 in
/-- java/lang/Long.numberOfTrailingZeros -/
theorem sf_82t43 {L : Nat} {xs : Nat → Int} {vb : Bool} {d : Nat} {σ α : Nat → Nat → Int} {κ : Nat → Option Nat} {ρ : Nat}  (hI : qI σ α κ ρ)  : qm_T (qe L xs vb) (d + 2) 82 [.long (ql 8796093022208)] (qw σ α κ ρ) (fun r w' => w' = qw σ α κ ρ ∧ ∃ v : Int, r = some (.int (qz v)) ∧ ((-2147483648) ≤ v ∧ v ≤ 2147483647) ∧ v = 43) := by
  refine qr_start (d := d + 1) qv_e82 (Nat.le_of_ble_eq_true rfl) ?_
  show qr_W (qe L xs vb) (d + 1) qx_e82 _ (0, [(0, .long (ql 8796093022208))], [], _, 0, 0)
  refine qr_lload_n 1 rfl rfl rfl ?_
  refine qr_l2i 2 rfl rfl ?_
  refine qy_vz 0 (by decide) ?_
  refine qr_istore_n _ 3 rfl (by decide) rfl rfl ?_
  refine qr_iload_n 4 rfl rfl rfl ?_
  refine qr_if_ne 21 7 rfl rfl rfl (by decide) (fun h => False.elim (by omega)) (fun h1 => ?_)
  refine qr_bipush 9 rfl (by decide) rfl ?_
  refine qr_lload_n 10 rfl rfl rfl ?_
  refine qr_bipush 12 rfl (by decide) rfl ?_
  refine qr_lushr 13 rfl rfl ?_
  refine qy_vl 2048 rfl ?_
  refine qr_l2i 14 rfl rfl ?_
  refine qy_v 2048 (by decide) ?_
  refine qr_callN 17 rfl rfl rfl (sf_83t11 (d := d + 0) hI ) ?_
  rintro _ _ ⟨rfl, v2, rfl, hv2, hp3⟩
  show qr_W (qe L xs vb) (d + 1) qx_e82 _ (17, _, [.int (qz v2), .int (qz 32)], qw σ α κ ρ, 0, 0)
  refine qr_iadd 18 rfl rfl ?_
  refine qr_goto 25 rfl rfl ?_
  refine qr_retI rfl rfl (by decide) (by decide) ?_
  exact ⟨rfl, (32 + v2), rfl, (by omega), by omega⟩

set_option maxHeartbeats 4000000 in
set_option maxRecDepth 20000 in
/-- java/lang/Long.numberOfTrailingZeros -/
theorem sf_82t44 {L : Nat} {xs : Nat → Int} {vb : Bool} {d : Nat} {σ α : Nat → Nat → Int} {κ : Nat → Option Nat} {ρ : Nat}  (hI : qI σ α κ ρ)  : qm_T (qe L xs vb) (d + 2) 82 [.long (ql 17592186044416)] (qw σ α κ ρ) (fun r w' => w' = qw σ α κ ρ ∧ ∃ v : Int, r = some (.int (qz v)) ∧ ((-2147483648) ≤ v ∧ v ≤ 2147483647) ∧ v = 44) := by
  refine qr_start (d := d + 1) qv_e82 (Nat.le_of_ble_eq_true rfl) ?_
  show qr_W (qe L xs vb) (d + 1) qx_e82 _ (0, [(0, .long (ql 17592186044416))], [], _, 0, 0)
  refine qr_lload_n 1 rfl rfl rfl ?_
  refine qr_l2i 2 rfl rfl ?_
  refine qy_vz 0 (by decide) ?_
  refine qr_istore_n _ 3 rfl (by decide) rfl rfl ?_
  refine qr_iload_n 4 rfl rfl rfl ?_
  refine qr_if_ne 21 7 rfl rfl rfl (by decide) (fun h => False.elim (by omega)) (fun h1 => ?_)
  refine qr_bipush 9 rfl (by decide) rfl ?_
  refine qr_lload_n 10 rfl rfl rfl ?_
  refine qr_bipush 12 rfl (by decide) rfl ?_
  refine qr_lushr 13 rfl rfl ?_
  refine qy_vl 4096 rfl ?_
  refine qr_l2i 14 rfl rfl ?_
  refine qy_v 4096 (by decide) ?_
  refine qr_callN 17 rfl rfl rfl (sf_83t12 (d := d + 0) hI ) ?_
  rintro _ _ ⟨rfl, v2, rfl, hv2, hp3⟩
  show qr_W (qe L xs vb) (d + 1) qx_e82 _ (17, _, [.int (qz v2), .int (qz 32)], qw σ α κ ρ, 0, 0)
  refine qr_iadd 18 rfl rfl ?_
  refine qr_goto 25 rfl rfl ?_
  refine qr_retI rfl rfl (by decide) (by decide) ?_
  exact ⟨rfl, (32 + v2), rfl, (by omega), by omega⟩

set_option maxHeartbeats 4000000 in
set_option maxRecDepth 20000 in
/-- java/lang/Long.numberOfTrailingZeros -/
theorem sf_82t45 {L : Nat} {xs : Nat → Int} {vb : Bool} {d : Nat} {σ α : Nat → Nat → Int} {κ : Nat → Option Nat} {ρ : Nat}  (hI : qI σ α κ ρ)  : qm_T (qe L xs vb) (d + 2) 82 [.long (ql 35184372088832)] (qw σ α κ ρ) (fun r w' => w' = qw σ α κ ρ ∧ ∃ v : Int, r = some (.int (qz v)) ∧ ((-2147483648) ≤ v ∧ v ≤ 2147483647) ∧ v = 45) := by
  refine qr_start (d := d + 1) qv_e82 (Nat.le_of_ble_eq_true rfl) ?_
  show qr_W (qe L xs vb) (d + 1) qx_e82 _ (0, [(0, .long (ql 35184372088832))], [], _, 0, 0)
  refine qr_lload_n 1 rfl rfl rfl ?_
  refine qr_l2i 2 rfl rfl ?_
  refine qy_vz 0 (by decide) ?_
  refine qr_istore_n _ 3 rfl (by decide) rfl rfl ?_
  refine qr_iload_n 4 rfl rfl rfl ?_
  refine qr_if_ne 21 7 rfl rfl rfl (by decide) (fun h => False.elim (by omega)) (fun h1 => ?_)
  refine qr_bipush 9 rfl (by decide) rfl ?_
  refine qr_lload_n 10 rfl rfl rfl ?_
  refine qr_bipush 12 rfl (by decide) rfl ?_
  refine qr_lushr 13 rfl rfl ?_
  refine qy_vl 8192 rfl ?_
  refine qr_l2i 14 rfl rfl ?_
  refine qy_v 8192 (by decide) ?_
  refine qr_callN 17 rfl rfl rfl (sf_83t13 (d := d + 0) hI ) ?_
  rintro _ _ ⟨rfl, v2, rfl, hv2, hp3⟩
  show qr_W (qe L xs vb) (d + 1) qx_e82 _ (17, _, [.int (qz v2), .int (qz 32)], qw σ α κ ρ, 0, 0)
  refine qr_iadd 18 rfl rfl ?_
  refine qr_goto 25 rfl rfl ?_
  refine qr_retI rfl rfl (by decide) (by decide) ?_
  exact ⟨rfl, (32 + v2), rfl, (by omega), by omega⟩

set_option maxHeartbeats 4000000 in
set_option maxRecDepth 20000 in
/-- java/lang/Long.numberOfTrailingZeros -/
theorem sf_82t46 {L : Nat} {xs : Nat → Int} {vb : Bool} {d : Nat} {σ α : Nat → Nat → Int} {κ : Nat → Option Nat} {ρ : Nat}  (hI : qI σ α κ ρ)  : qm_T (qe L xs vb) (d + 2) 82 [.long (ql 70368744177664)] (qw σ α κ ρ) (fun r w' => w' = qw σ α κ ρ ∧ ∃ v : Int, r = some (.int (qz v)) ∧ ((-2147483648) ≤ v ∧ v ≤ 2147483647) ∧ v = 46) := by
  refine qr_start (d := d + 1) qv_e82 (Nat.le_of_ble_eq_true rfl) ?_
  show qr_W (qe L xs vb) (d + 1) qx_e82 _ (0, [(0, .long (ql 70368744177664))], [], _, 0, 0)
  refine qr_lload_n 1 rfl rfl rfl ?_
  refine qr_l2i 2 rfl rfl ?_
  refine qy_vz 0 (by decide) ?_
  refine qr_istore_n _ 3 rfl (by decide) rfl rfl ?_
  refine qr_iload_n 4 rfl rfl rfl ?_
  refine qr_if_ne 21 7 rfl rfl rfl (by decide) (fun h => False.elim (by omega)) (fun h1 => ?_)
  refine qr_bipush 9 rfl (by decide) rfl ?_
  refine qr_lload_n 10 rfl rfl rfl ?_
  refine qr_bipush 12 rfl (by decide) rfl ?_
  refine qr_lushr 13 rfl rfl ?_
  refine qy_vl 16384 rfl ?_
  refine qr_l2i 14 rfl rfl ?_
  refine qy_v 16384 (by decide) ?_
  refine qr_callN 17 rfl rfl rfl (sf_83t14 (d := d + 0) hI ) ?_
  rintro _ _ ⟨rfl, v2, rfl, hv2, hp3⟩
  show qr_W (qe L xs vb) (d + 1) qx_e82 _ (17, _, [.int (qz v2), .int (qz 32)], qw σ α κ ρ, 0, 0)
  refine qr_iadd 18 rfl rfl ?_
  refine qr_goto 25 rfl rfl ?_
  refine qr_retI rfl rfl (by decide) (by decide) ?_
  exact ⟨rfl, (32 + v2), rfl, (by omega), by omega⟩

set_option maxHeartbeats 4000000 in
set_option maxRecDepth 20000 in
/-- java/lang/Long.numberOfTrailingZeros -/
theorem sf_82t47 {L : Nat} {xs : Nat → Int} {vb : Bool} {d : Nat} {σ α : Nat → Nat → Int} {κ : Nat → Option Nat} {ρ : Nat}  (hI : qI σ α κ ρ)  : qm_T (qe L xs vb) (d + 2) 82 [.long (ql 140737488355328)] (qw σ α κ ρ) (fun r w' => w' = qw σ α κ ρ ∧ ∃ v : Int, r = some (.int (qz v)) ∧ ((-2147483648) ≤ v ∧ v ≤ 2147483647) ∧ v = 47) := by
  refine qr_start (d := d + 1) qv_e82 (Nat.le_of_ble_eq_true rfl) ?_
  show qr_W (qe L xs vb) (d + 1) qx_e82 _ (0, [(0, .long (ql 140737488355328))], [], _, 0, 0)
  refine qr_lload_n 1 rfl rfl rfl ?_
  refine qr_l2i 2 rfl rfl ?_
  refine qy_vz 0 (by decide) ?_
  refine qr_istore_n _ 3 rfl (by decide) rfl rfl ?_
  refine qr_iload_n 4 rfl rfl rfl ?_
  refine qr_if_ne 21 7 rfl rfl rfl (by decide) (fun h => False.elim (by omega)) (fun h1 => ?_)
  refine qr_bipush 9 rfl (by decide) rfl ?_
  refine qr_lload_n 10 rfl rfl rfl ?_
  refine qr_bipush 12 rfl (by decide) rfl ?_
  refine qr_lushr 13 rfl rfl ?_
  refine qy_vl 32768 rfl ?_
  refine qr_l2i 14 rfl rfl ?_
  refine qy_v 32768 (by decide) ?_
  refine qr_callN 17 rfl rfl rfl (sf_83t15 (d := d + 0) hI ) ?_
  rintro _ _ ⟨rfl, v2, rfl, hv2, hp3⟩
  show qr_W (qe L xs vb) (d + 1) qx_e82 _ (17, _, [.int (qz v2), .int (qz 32)], qw σ α κ ρ, 0, 0)
  refine qr_iadd 18 rfl rfl ?_
  refine qr_goto 25 rfl rfl ?_
  refine qr_retI rfl rfl (by decide) (by decide) ?_
  exact ⟨rfl, (32 + v2), rfl, (by omega), by omega⟩

set_option maxHeartbeats 4000000 in
set_option maxRecDepth 20000 in
/-- java/lang/Long.numberOfTrailingZeros -/
theorem sf_82t48 {L : Nat} {xs : Nat → Int} {vb : Bool} {d : Nat} {σ α : Nat → Nat → Int} {κ : Nat → Option Nat} {ρ : Nat}  (hI : qI σ α κ ρ)  : qm_T (qe L xs vb) (d + 2) 82 [.long (ql 281474976710656)] (qw σ α κ ρ) (fun r w' => w' = qw σ α κ ρ ∧ ∃ v : Int, r = some (.int (qz v)) ∧ ((-2147483648) ≤ v ∧ v ≤ 2147483647) ∧ v = 48) := by
  refine qr_start (d := d + 1) qv_e82 (Nat.le_of_ble_eq_true rfl) ?_
  show qr_W (qe L xs vb) (d + 1) qx_e82 _ (0, [(0, .long (ql 281474976710656))], [], _, 0, 0)
  refine qr_lload_n 1 rfl rfl rfl ?_
  refine qr_l2i 2 rfl rfl ?_
  refine qy_vz 0 (by decide) ?_
  refine qr_istore_n _ 3 rfl (by decide) rfl rfl ?_
  refine qr_iload_n 4 rfl rfl rfl ?_
  refine qr_if_ne 21 7 rfl rfl rfl (by decide) (fun h => False.elim (by omega)) (fun h1 => ?_)
  refine qr_bipush 9 rfl (by decide) rfl ?_
  refine qr_lload_n 10 rfl rfl rfl ?_
  refine qr_bipush 12 rfl (by decide) rfl ?_
  refine qr_lushr 13 rfl rfl ?_
  refine qy_vl 65536 rfl ?_
  refine qr_l2i 14 rfl rfl ?_
  refine qy_v 65536 (by decide) ?_
  refine qr_callN 17 rfl rfl rfl (sf_83t16 (d := d + 0) hI ) ?_
  rintro _ _ ⟨rfl, v2, rfl, hv2, hp3⟩
  show qr_W (qe L xs vb) (d + 1) qx_e82 _ (17, _, [.int (qz v2), .int (qz 32)], qw σ α κ ρ, 0, 0)
  refine qr_iadd 18 rfl rfl ?_
  refine qr_goto 25 rfl rfl ?_
  refine qr_retI rfl rfl (by decide) (by decide) ?_
  exact ⟨rfl, (32 + v2), rfl, (by omega), by omega⟩

set_option maxHeartbeats 4000000 in
set_option maxRecDepth 20000 in
/-- java/lang/Long.numberOfTrailingZeros -/
theorem sf_82t49 {L : Nat} {xs : Nat → Int} {vb : Bool} {d : Nat} {σ α : Nat → Nat → Int} {κ : Nat → Option Nat} {ρ : Nat}  (hI : qI σ α κ ρ)  : qm_T (qe L xs vb) (d + 2) 82 [.long (ql 562949953421312)] (qw σ α κ ρ) (fun r w' => w' = qw σ α κ ρ ∧ ∃ v : Int, r = some (.int (qz v)) ∧ ((-2147483648) ≤ v ∧ v ≤ 2147483647) ∧ v = 49) := by
  refine qr_start (d := d + 1) qv_e82 (Nat.le_of_ble_eq_true rfl) ?_
  show qr_W (qe L xs vb) (d + 1) qx_e82 _ (0, [(0, .long (ql 562949953421312))], [], _, 0, 0)
  refine qr_lload_n 1 rfl rfl rfl ?_
  refine qr_l2i 2 rfl rfl ?_
  refine qy_vz 0 (by decide) ?_
  refine qr_istore_n _ 3 rfl (by decide) rfl rfl ?_
  refine qr_iload_n 4 rfl rfl rfl ?_
  refine qr_if_ne 21 7 rfl rfl rfl (by decide) (fun h => False.elim (by omega)) (fun h1 => ?_)
  refine qr_bipush 9 rfl (by decide) rfl ?_
  refine qr_lload_n 10 rfl rfl rfl ?_
  refine qr_bipush 12 rfl (by decide) rfl ?_
  refine qr_lushr 13 rfl rfl ?_
  refine qy_vl 131072 rfl ?_
  refine qr_l2i 14 rfl rfl ?_
  refine qy_v 131072 (by decide) ?_
  refine qr_callN 17 rfl rfl rfl (sf_83t17 (d := d + 0) hI ) ?_
  rintro _ _ ⟨rfl, v2, rfl, hv2, hp3⟩
  show qr_W (qe L xs vb) (d + 1) qx_e82 _ (17, _, [.int (qz v2), .int (qz 32)], qw σ α κ ρ, 0, 0)
  refine qr_iadd 18 rfl rfl ?_
  refine qr_goto 25 rfl rfl ?_
  refine qr_retI rfl rfl (by decide) (by decide) ?_
  exact ⟨rfl, (32 + v2), rfl, (by omega), by omega⟩

set_option maxHeartbeats 4000000 in
set_option maxRecDepth 20000 in
/-- java/lang/Long.numberOfTrailingZeros -/
theorem sf_82t50 {L : Nat} {xs : Nat → Int} {vb : Bool} {d : Nat} {σ α : Nat → Nat → Int} {κ : Nat → Option Nat} {ρ : Nat}  (hI : qI σ α κ ρ)  : qm_T (qe L xs vb) (d + 2) 82 [.long (ql 1125899906842624)] (qw σ α κ ρ) (fun r w' => w' = qw σ α κ ρ ∧ ∃ v : Int, r = some (.int (qz v)) ∧ ((-2147483648) ≤ v ∧ v ≤ 2147483647) ∧ v = 50) := by
  refine qr_start (d := d + 1) qv_e82 (Nat.le_of_ble_eq_true rfl) ?_
  show qr_W (qe L xs vb) (d + 1) qx_e82 _ (0, [(0, .long (ql 1125899906842624))], [], _, 0, 0)
  refine qr_lload_n 1 rfl rfl rfl ?_
  refine qr_l2i 2 rfl rfl ?_
  refine qy_vz 0 (by decide) ?_
  refine qr_istore_n _ 3 rfl (by decide) rfl rfl ?_
  refine qr_iload_n 4 rfl rfl rfl ?_
  refine qr_if_ne 21 7 rfl rfl rfl (by decide) (fun h => False.elim (by omega)) (fun h1 => ?_)
  refine qr_bipush 9 rfl (by decide) rfl ?_
  refine qr_lload_n 10 rfl rfl rfl ?_
  refine qr_bipush 12 rfl (by decide) rfl ?_
  refine qr_lushr 13 rfl rfl ?_
  refine qy_vl 262144 rfl ?_
  refine qr_l2i 14 rfl rfl ?_
  refine qy_v 262144 (by decide) ?_
  refine qr_callN 17 rfl rfl rfl (sf_83t18 (d := d + 0) hI ) ?_
  rintro _ _ ⟨rfl, v2, rfl, hv2, hp3⟩
  show qr_W (qe L xs vb) (d + 1) qx_e82 _ (17, _, [.int (qz v2), .int (qz 32)], qw σ α κ ρ, 0, 0)
  refine qr_iadd 18 rfl rfl ?_
  refine qr_goto 25 rfl rfl ?_
  refine qr_retI rfl rfl (by decide) (by decide) ?_
  exact ⟨rfl, (32 + v2), rfl, (by omega), by omega⟩

set_option maxHeartbeats 4000000 in
set_option maxRecDepth 20000 in
/-- java/lang/Long.numberOfTrailingZeros -/
theorem sf_82t51 {L : Nat} {xs : Nat → Int} {vb : Bool} {d : Nat} {σ α : Nat → Nat → Int} {κ : Nat → Option Nat} {ρ : Nat}  (hI : qI σ α κ ρ)  : qm_T (qe L xs vb) (d + 2) 82 [.long (ql 2251799813685248)] (qw σ α κ ρ) (fun r w' => w' = qw σ α κ ρ ∧ ∃ v : Int, r = some (.int (qz v)) ∧ ((-2147483648) ≤ v ∧ v ≤ 2147483647) ∧ v = 51) := by
  refine qr_start (d := d + 1) qv_e82 (Nat.le_of_ble_eq_true rfl) ?_
  show qr_W (qe L xs vb) (d + 1) qx_e82 _ (0, [(0, .long (ql 2251799813685248))], [], _, 0, 0)
  refine qr_lload_n 1 rfl rfl rfl ?_
  refine qr_l2i 2 rfl rfl ?_
  refine qy_vz 0 (by decide) ?_
  refine qr_istore_n _ 3 rfl (by decide) rfl rfl ?_
  refine qr_iload_n 4 rfl rfl rfl ?_
  refine qr_if_ne 21 7 rfl rfl rfl (by decide) (fun h => False.elim (by omega)) (fun h1 => ?_)
  refine qr_bipush 9 rfl (by decide) rfl ?_
  refine qr_lload_n 10 rfl rfl rfl ?_
  refine qr_bipush 12 rfl (by decide) rfl ?_
  refine qr_lushr 13 rfl rfl ?_
  refine qy_vl 524288 rfl ?_
  refine qr_l2i 14 rfl rfl ?_
  refine qy_v 524288 (by decide) ?_
  refine qr_callN 17 rfl rfl rfl (sf_83t19 (d := d + 0) hI ) ?_
  rintro _ _ ⟨rfl, v2, rfl, hv2, hp3⟩
  show qr_W (qe L xs vb) (d + 1) qx_e82 _ (17, _, [.int (qz v2), .int (qz 32)], qw σ α κ ρ, 0, 0)
  refine qr_iadd 18 rfl rfl ?_
  refine qr_goto 25 rfl rfl ?_
  refine qr_retI rfl rfl (by decide) (by decide) ?_
  exact ⟨rfl, (32 + v2), rfl, (by omega), by omega⟩

set_option maxHeartbeats 4000000 in
set_option maxRecDepth 20000 in
/-- java/lang/Long.numberOfTrailingZeros -/
theorem sf_82t52 {L : Nat} {xs : Nat → Int} {vb : Bool} {d : Nat} {σ α : Nat → Nat → Int} {κ : Nat → Option Nat} {ρ : Nat}  (hI : qI σ α κ ρ)  : qm_T (qe L xs vb) (d + 2) 82 [.long (ql 4503599627370496)] (qw σ α κ ρ) (fun r w' => w' = qw σ α κ ρ ∧ ∃ v : Int, r = some (.int (qz v)) ∧ ((-2147483648) ≤ v ∧ v ≤ 2147483647) ∧ v = 52) := by
  refine qr_start (d := d + 1) qv_e82 (Nat.le_of_ble_eq_true rfl) ?_
  show qr_W (qe L xs vb) (d + 1) qx_e82 _ (0, [(0, .long (ql 4503599627370496))], [], _, 0, 0)
  refine qr_lload_n 1 rfl rfl rfl ?_
  refine qr_l2i 2 rfl rfl ?_
  refine qy_vz 0 (by decide) ?_
  refine qr_istore_n _ 3 rfl (by decide) rfl rfl ?_
  refine qr_iload_n 4 rfl rfl rfl ?_
  refine qr_if_ne 21 7 rfl rfl rfl (by decide) (fun h => False.elim (by omega)) (fun h1 => ?_)
  refine qr_bipush 9 rfl (by decide) rfl ?_
  refine qr_lload_n 10 rfl rfl rfl ?_
  refine qr_bipush 12 rfl (by decide) rfl ?_
  refine qr_lushr 13 rfl rfl ?_
  refine qy_vl 1048576 rfl ?_
  refine qr_l2i 14 rfl rfl ?_
  refine qy_v 1048576 (by decide) ?_
  refine qr_callN 17 rfl rfl rfl (sf_83t20 (d := d + 0) hI ) ?_
  rintro _ _ ⟨rfl, v2, rfl, hv2, hp3⟩
  show qr_W (qe L xs vb) (d + 1) qx_e82 _ (17, _, [.int (qz v2), .int (qz 32)], qw σ α κ ρ, 0, 0)
  refine qr_iadd 18 rfl rfl ?_
  refine qr_goto 25 rfl rfl ?_
  refine qr_retI rfl rfl (by decide) (by decide) ?_
  exact ⟨rfl, (32 + v2), rfl, (by omega), by omega⟩

set_option maxHeartbeats 4000000 in
set_option maxRecDepth 20000 in
/-- java/lang/Long.numberOfTrailingZeros -/
theorem sf_82t53 {L : Nat} {xs : Nat → Int} {vb : Bool} {d : Nat} {σ α : Nat → Nat → Int} {κ : Nat → Option Nat} {ρ : Nat}  (hI : qI σ α κ ρ)  : qm_T (qe L xs vb) (d + 2) 82 [.long (ql 9007199254740992)] (qw σ α κ ρ) (fun r w' => w' = qw σ α κ ρ ∧ ∃ v : Int, r = some (.int (qz v)) ∧ ((-2147483648) ≤ v ∧ v ≤ 2147483647) ∧ v = 53) := by
  refine qr_start (d := d + 1) qv_e82 (Nat.le_of_ble_eq_true rfl) ?_
  show qr_W (qe L xs vb) (d + 1) qx_e82 _ (0, [(0, .long (ql 9007199254740992))], [], _, 0, 0)
  refine qr_lload_n 1 rfl rfl rfl ?_
  refine qr_l2i 2 rfl rfl ?_
  refine qy_vz 0 (by decide) ?_
  refine qr_istore_n _ 3 rfl (by decide) rfl rfl ?_
  refine qr_iload_n 4 rfl rfl rfl ?_
  refine qr_if_ne 21 7 rfl rfl rfl (by decide) (fun h => False.elim (by omega)) (fun h1 => ?_)
  refine qr_bipush 9 rfl (by decide) rfl ?_
  refine qr_lload_n 10 rfl rfl rfl ?_
  refine qr_bipush 12 rfl (by decide) rfl ?_
  refine qr_lushr 13 rfl rfl ?_
  refine qy_vl 2097152 rfl ?_
  refine qr_l2i 14 rfl rfl ?_
  refine qy_v 2097152 (by decide) ?_
  refine qr_callN 17 rfl rfl rfl (sf_83t21 (d := d + 0) hI ) ?_
  rintro _ _ ⟨rfl, v2, rfl, hv2, hp3⟩
  show qr_W (qe L xs vb) (d + 1) qx_e82 _ (17, _, [.int (qz v2), .int (qz 32)], qw σ α κ ρ, 0, 0)
  refine qr_iadd 18 rfl rfl ?_
  refine qr_goto 25 rfl rfl ?_
  refine qr_retI rfl rfl (by decide) (by decide) ?_
  exact ⟨rfl, (32 + v2), rfl, (by omega), by omega⟩

set_option maxHeartbeats 4000000 in
set_option maxRecDepth 20000 in
/-- java/lang/Long.numberOfTrailingZeros -/
theorem sf_82t54 {L : Nat} {xs : Nat → Int} {vb : Bool} {d : Nat} {σ α : Nat → Nat → Int} {κ : Nat → Option Nat} {ρ : Nat}  (hI : qI σ α κ ρ)  : qm_T (qe L xs vb) (d + 2) 82 [.long (ql 18014398509481984)] (qw σ α κ ρ) (fun r w' => w' = qw σ α κ ρ ∧ ∃ v : Int, r = some (.int (qz v)) ∧ ((-2147483648) ≤ v ∧ v ≤ 2147483647) ∧ v = 54) := by
  refine qr_start (d := d + 1) qv_e82 (Nat.le_of_ble_eq_true rfl) ?_
  show qr_W (qe L xs vb) (d + 1) qx_e82 _ (0, [(0, .long (ql 18014398509481984))], [], _, 0, 0)
  refine qr_lload_n 1 rfl rfl rfl ?_
  refine qr_l2i 2 rfl rfl ?_
  refine qy_vz 0 (by decide) ?_
  refine qr_istore_n _ 3 rfl (by decide) rfl rfl ?_
  refine qr_iload_n 4 rfl rfl rfl ?_
  refine qr_if_ne 21 7 rfl rfl rfl (by decide) (fun h => False.elim (by omega)) (fun h1 => ?_)
  refine qr_bipush 9 rfl (by decide) rfl ?_
  refine qr_lload_n 10 rfl rfl rfl ?_
  refine qr_bipush 12 rfl (by decide) rfl ?_
  refine qr_lushr 13 rfl rfl ?_
  refine qy_vl 4194304 rfl ?_
  refine qr_l2i 14 rfl rfl ?_
  refine qy_v 4194304 (by decide) ?_
  refine qr_callN 17 rfl rfl rfl (sf_83t22 (d := d + 0) hI ) ?_
  rintro _ _ ⟨rfl, v2, rfl, hv2, hp3⟩
  show qr_W (qe L xs vb) (d + 1) qx_e82 _ (17, _, [.int (qz v2), .int (qz 32)], qw σ α κ ρ, 0, 0)
  refine qr_iadd 18 rfl rfl ?_
  refine qr_goto 25 rfl rfl ?_
  refine qr_retI rfl rfl (by decide) (by decide) ?_
  exact ⟨rfl, (32 + v2), rfl, (by omega), by omega⟩

set_option maxHeartbeats 4000000 in
set_option maxRecDepth 20000 in
/-- java/lang/Long.numberOfTrailingZeros -/
theorem sf_82t55 {L : Nat} {xs : Nat → Int} {vb : Bool} {d : Nat} {σ α : Nat → Nat → Int} {κ : Nat → Option Nat} {ρ : Nat}  (hI : qI σ α κ ρ)  : qm_T (qe L xs vb) (d + 2) 82 [.long (ql 36028797018963968)] (qw σ α κ ρ) (fun r w' => w' = qw σ α κ ρ ∧ ∃ v : Int, r = some (.int (qz v)) ∧ ((-2147483648) ≤ v ∧ v ≤ 2147483647) ∧ v = 55) := by
  refine qr_start (d := d + 1) qv_e82 (Nat.le_of_ble_eq_true rfl) ?_
  show qr_W (qe L xs vb) (d + 1) qx_e82 _ (0, [(0, .long (ql 36028797018963968))], [], _, 0, 0)
  refine qr_lload_n 1 rfl rfl rfl ?_
  refine qr_l2i 2 rfl rfl ?_
  refine qy_vz 0 (by decide) ?_
  refine qr_istore_n _ 3 rfl (by decide) rfl rfl ?_
  refine qr_iload_n 4 rfl rfl rfl ?_
  refine qr_if_ne 21 7 rfl rfl rfl (by decide) (fun h => False.elim (by omega)) (fun h1 => ?_)
  refine qr_bipush 9 rfl (by decide) rfl ?_
  refine qr_lload_n 10 rfl rfl rfl ?_
  refine qr_bipush 12 rfl (by decide) rfl ?_
  refine qr_lushr 13 rfl rfl ?_
  refine qy_vl 8388608 rfl ?_
  refine qr_l2i 14 rfl rfl ?_
  refine qy_v 8388608 (by decide) ?_
  refine qr_callN 17 rfl rfl rfl (sf_83t23 (d := d + 0) hI ) ?_
  rintro _ _ ⟨rfl, v2, rfl, hv2, hp3⟩
  show qr_W (qe L xs vb) (d + 1) qx_e82 _ (17, _, [.int (qz v2), .int (qz 32)], qw σ α κ ρ, 0, 0)
  refine qr_iadd 18 rfl rfl ?_
  refine qr_goto 25 rfl rfl ?_
  refine qr_retI rfl rfl (by decide) (by decide) ?_
  exact ⟨rfl, (32 + v2), rfl, (by omega), by omega⟩

set_option maxHeartbeats 4000000 in
set_option maxRecDepth 20000 in
/-- java/lang/Long.numberOfTrailingZeros -/
theorem sf_82t56 {L : Nat} {xs : Nat → Int} {vb : Bool} {d : Nat} {σ α : Nat → Nat → Int} {κ : Nat → Option Nat} {ρ : Nat}  (hI : qI σ α κ ρ)  : qm_T (qe L xs vb) (d + 2) 82 [.long (ql 72057594037927936)] (qw σ α κ ρ) (fun r w' => w' = qw σ α κ ρ ∧ ∃ v : Int, r = some (.int (qz v)) ∧ ((-2147483648) ≤ v ∧ v ≤ 2147483647) ∧ v = 56) := by
  refine qr_start (d := d + 1) qv_e82 (Nat.le_of_ble_eq_true rfl) ?_
  show qr_W (qe L xs vb) (d + 1) qx_e82 _ (0, [(0, .long (ql 72057594037927936))], [], _, 0, 0)
  refine qr_lload_n 1 rfl rfl rfl ?_
  refine qr_l2i 2 rfl rfl ?_
  refine qy_vz 0 (by decide) ?_
  refine qr_istore_n _ 3 rfl (by decide) rfl rfl ?_
  refine qr_iload_n 4 rfl rfl rfl ?_
  refine qr_if_ne 21 7 rfl rfl rfl (by decide) (fun h => False.elim (by omega)) (fun h1 => ?_)
  refine qr_bipush 9 rfl (by decide) rfl ?_
  refine qr_lload_n 10 rfl rfl rfl ?_
  refine qr_bipush 12 rfl (by decide) rfl ?_
  refine qr_lushr 13 rfl rfl ?_
  refine qy_vl 16777216 rfl ?_
  refine qr_l2i 14 rfl rfl ?_
  refine qy_v 16777216 (by decide) ?_
  refine qr_callN 17 rfl rfl rfl (sf_83t24 (d := d + 0) hI ) ?_
  rintro _ _ ⟨rfl, v2, rfl, hv2, hp3⟩
  show qr_W (qe L xs vb) (d + 1) qx_e82 _ (17, _, [.int (qz v2), .int (qz 32)], qw σ α κ ρ, 0, 0)
  refine qr_iadd 18 rfl rfl ?_
  refine qr_goto 25 rfl rfl ?_
  refine qr_retI rfl rfl (by decide) (by decide) ?_
  exact ⟨rfl, (32 + v2), rfl, (by omega), by omega⟩

set_option maxHeartbeats 4000000 in
set_option maxRecDepth 20000 in
/-- java/lang/Long.numberOfTrailingZeros -/
theorem sf_82t57 {L : Nat} {xs : Nat → Int} {vb : Bool} {d : Nat} {σ α : Nat → Nat → Int} {κ : Nat → Option Nat} {ρ : Nat}  (hI : qI σ α κ ρ)  : qm_T (qe L xs vb) (d + 2) 82 [.long (ql 144115188075855872)] (qw σ α κ ρ) (fun r w' => w' = qw σ α κ ρ ∧ ∃ v : Int, r = some (.int (qz v)) ∧ ((-2147483648) ≤ v ∧ v ≤ 2147483647) ∧ v = 57) := by
  refine qr_start (d := d + 1) qv_e82 (Nat.le_of_ble_eq_true rfl) ?_
  show qr_W (qe L xs vb) (d + 1) qx_e82 _ (0, [(0, .long (ql 144115188075855872))], [], _, 0, 0)
  refine qr_lload_n 1 rfl rfl rfl ?_
  refine qr_l2i 2 rfl rfl ?_
  refine qy_vz 0 (by decide) ?_
  refine qr_istore_n _ 3 rfl (by decide) rfl rfl ?_
  refine qr_iload_n 4 rfl rfl rfl ?_
  refine qr_if_ne 21 7 rfl rfl rfl (by decide) (fun h => False.elim (by omega)) (fun h1 => ?_)
  refine qr_bipush 9 rfl (by decide) rfl ?_
  refine qr_lload_n 10 rfl rfl rfl ?_
  refine qr_bipush 12 rfl (by decide) rfl ?_
  refine qr_lushr 13 rfl rfl ?_
  refine qy_vl 33554432 rfl ?_
  refine qr_l2i 14 rfl rfl ?_
  refine qy_v 33554432 (by decide) ?_
  refine qr_callN 17 rfl rfl rfl (sf_83t25 (d := d + 0) hI ) ?_
  rintro _ _ ⟨rfl, v2, rfl, hv2, hp3⟩
  show qr_W (qe L xs vb) (d + 1) qx_e82 _ (17, _, [.int (qz v2), .int (qz 32)], qw σ α κ ρ, 0, 0)
  refine qr_iadd 18 rfl rfl ?_
  refine qr_goto 25 rfl rfl ?_
  refine qr_retI rfl rfl (by decide) (by decide) ?_
  exact ⟨rfl, (32 + v2), rfl, (by omega), by omega⟩

set_option maxHeartbeats 4000000 in
set_option maxRecDepth 20000 in
/-- java/lang/Long.numberOfTrailingZeros -/
theorem sf_82t58 {L : Nat} {xs : Nat → Int} {vb : Bool} {d : Nat} {σ α : Nat → Nat → Int} {κ : Nat → Option Nat} {ρ : Nat}  (hI : qI σ α κ ρ)  : qm_T (qe L xs vb) (d + 2) 82 [.long (ql 288230376151711744)] (qw σ α κ ρ) (fun r w' => w' = qw σ α κ ρ ∧ ∃ v : Int, r = some (.int (qz v)) ∧ ((-2147483648) ≤ v ∧ v ≤ 2147483647) ∧ v = 58) := by
  refine qr_start (d := d + 1) qv_e82 (Nat.le_of_ble_eq_true rfl) ?_
  show qr_W (qe L xs vb) (d + 1) qx_e82 _ (0, [(0, .long (ql 288230376151711744))], [], _, 0, 0)
  refine qr_lload_n 1 rfl rfl rfl ?_
  refine qr_l2i 2 rfl rfl ?_
  refine qy_vz 0 (by decide) ?_
  refine qr_istore_n _ 3 rfl (by decide) rfl rfl ?_
  refine qr_iload_n 4 rfl rfl rfl ?_
  refine qr_if_ne 21 7 rfl rfl rfl (by decide) (fun h => False.elim (by omega)) (fun h1 => ?_)
  refine qr_bipush 9 rfl (by decide) rfl ?_
  refine qr_lload_n 10 rfl rfl rfl ?_
  refine qr_bipush 12 rfl (by decide) rfl ?_
  refine qr_lushr 13 rfl rfl ?_
  refine qy_vl 67108864 rfl ?_
  refine qr_l2i 14 rfl rfl ?_
  refine qy_v 67108864 (by decide) ?_
  refine qr_callN 17 rfl rfl rfl (sf_83t26 (d := d + 0) hI ) ?_
  rintro _ _ ⟨rfl, v2, rfl, hv2, hp3⟩
  show qr_W (qe L xs vb) (d + 1) qx_e82 _ (17, _, [.int (qz v2), .int (qz 32)], qw σ α κ ρ, 0, 0)
  refine qr_iadd 18 rfl rfl ?_
  refine qr_goto 25 rfl rfl ?_
  refine qr_retI rfl rfl (by decide) (by decide) ?_
  exact ⟨rfl, (32 + v2), rfl, (by omega), by omega⟩

set_option maxHeartbeats 4000000 in
set_option maxRecDepth 20000 in
/-- java/lang/Long.numberOfTrailingZeros -/
theorem sf_82t59 {L : Nat} {xs : Nat → Int} {vb : Bool} {d : Nat} {σ α : Nat → Nat → Int} {κ : Nat → Option Nat} {ρ : Nat}  (hI : qI σ α κ ρ)  : qm_T (qe L xs vb) (d + 2) 82 [.long (ql 576460752303423488)] (qw σ α κ ρ) (fun r w' => w' = qw σ α κ ρ ∧ ∃ v : Int, r = some (.int (qz v)) ∧ ((-2147483648) ≤ v ∧ v ≤ 2147483647) ∧ v = 59) := by
  refine qr_start (d := d + 1) qv_e82 (Nat.le_of_ble_eq_true rfl) ?_
  show qr_W (qe L xs vb) (d + 1) qx_e82 _ (0, [(0, .long (ql 576460752303423488))], [], _, 0, 0)
  refine qr_lload_n 1 rfl rfl rfl ?_
  refine qr_l2i 2 rfl rfl ?_
  refine qy_vz 0 (by decide) ?_
  refine qr_istore_n _ 3 rfl (by decide) rfl rfl ?_
  refine qr_iload_n 4 rfl rfl rfl ?_
  refine qr_if_ne 21 7 rfl rfl rfl (by decide) (fun h => False.elim (by omega)) (fun h1 => ?_)
  refine qr_bipush 9 rfl (by decide) rfl ?_
  refine qr_lload_n 10 rfl rfl rfl ?_
  refine qr_bipush 12 rfl (by decide) rfl ?_
  refine qr_lushr 13 rfl rfl ?_
  refine qy_vl 134217728 rfl ?_
  refine qr_l2i 14 rfl rfl ?_
  refine qy_v 134217728 (by decide) ?_
  refine qr_callN 17 rfl rfl rfl (sf_83t27 (d := d + 0) hI ) ?_
  rintro _ _ ⟨rfl, v2, rfl, hv2, hp3⟩
  show qr_W (qe L xs vb) (d + 1) qx_e82 _ (17, _, [.int (qz v2), .int (qz 32)], qw σ α κ ρ, 0, 0)
  refine qr_iadd 18 rfl rfl ?_
  refine qr_goto 25 rfl rfl ?_
  refine qr_retI rfl rfl (by decide) (by decide) ?_
  exact ⟨rfl, (32 + v2), rfl, (by omega), by omega⟩

set_option maxHeartbeats 4000000 in
set_option maxRecDepth 20000 in
/-- java/lang/Long.numberOfTrailingZeros -/
theorem sf_82p {L : Nat} {xs : Nat → Int} {vb : Bool} {d : Nat} {σ α : Nat → Nat → Int} {κ : Nat → Option Nat} {ρ : Nat} {x0 : Int} (hI : qI σ α κ ρ) (r0 : (-9223372036854775808) ≤ x0 ∧ x0 ≤ 9223372036854775807) (p0 : ∃ j : Nat, j < 60 ∧ x0 = 2 ^ j) : qm_T (qe L xs vb) (d + 2) 82 [.long (ql x0)] (qw σ α κ ρ) (fun r w' => w' = qw σ α κ ρ ∧ ∃ v : Int, r = some (.int (qz v)) ∧ (0 ≤ v ∧ v ≤ 59) ∧ x0 = 2 ^ (v : Int).toNat) := by
  obtain ⟨j, hj, e⟩ := p0
  have h1 : j = 0 ∨ j = 1 ∨ j = 2 ∨ j = 3 ∨ j = 4 ∨ j = 5 ∨ j = 6 ∨ j = 7 ∨ j = 8 ∨ j = 9 ∨ j = 10 ∨ j = 11 ∨ j = 12 ∨ j = 13 ∨ j = 14 ∨ j = 15 ∨ j = 16 ∨ j = 17 ∨ j = 18 ∨ j = 19 ∨ j = 20 ∨ j = 21 ∨ j = 22 ∨ j = 23 ∨ j = 24 ∨ j = 25 ∨ j = 26 ∨ j = 27 ∨ j = 28 ∨ j = 29 ∨ j = 30 ∨ j = 31 ∨ j = 32 ∨ j = 33 ∨ j = 34 ∨ j = 35 ∨ j = 36 ∨ j = 37 ∨ j = 38 ∨ j = 39 ∨ j = 40 ∨ j = 41 ∨ j = 42 ∨ j = 43 ∨ j = 44 ∨ j = 45 ∨ j = 46 ∨ j = 47 ∨ j = 48 ∨ j = 49 ∨ j = 50 ∨ j = 51 ∨ j = 52 ∨ j = 53 ∨ j = 54 ∨ j = 55 ∨ j = 56 ∨ j = 57 ∨ j = 58 ∨ j = 59 := by omega
  rcases h1 with h1 | h1 | h1 | h1 | h1 | h1 | h1 | h1 | h1 | h1 | h1 | h1 | h1 | h1 | h1 | h1 | h1 | h1 | h1 | h1 | h1 | h1 | h1 | h1 | h1 | h1 | h1 | h1 | h1 | h1 | h1 | h1 | h1 | h1 | h1 | h1 | h1 | h1 | h1 | h1 | h1 | h1 | h1 | h1 | h1 | h1 | h1 | h1 | h1 | h1 | h1 | h1 | h1 | h1 | h1 | h1 | h1 | h1 | h1 | h1
  · have e2 : x0 = 1 := by rw [e, h1]; decide
    rw [e2]
    refine qr_mono (sf_82t0 (d := d + 0) hI) ?_
    rintro r w' ⟨rfl, v, rfl, hv, hp⟩
    exact ⟨rfl, v, rfl, by omega, by rw [hp]; decide⟩
  · have e2 : x0 = 2 := by rw [e, h1]; decide
    rw [e2]
    refine qr_mono (sf_82t1 (d := d + 0) hI) ?_
    rintro r w' ⟨rfl, v, rfl, hv, hp⟩
    exact ⟨rfl, v, rfl, by omega, by rw [hp]; decide⟩
  · have e2 : x0 = 4 := by rw [e, h1]; decide
    rw [e2]
    refine qr_mono (sf_82t2 (d := d + 0) hI) ?_
    rintro r w' ⟨rfl, v, rfl, hv, hp⟩
    exact ⟨rfl, v, rfl, by omega, by rw [hp]; decide⟩
  · have e2 : x0 = 8 := by rw [e, h1]; decide
    rw [e2]
    refine qr_mono (sf_82t3 (d := d + 0) hI) ?_
    rintro r w' ⟨rfl, v, rfl, hv, hp⟩
    exact ⟨rfl, v, rfl, by omega, by rw [hp]; decide⟩
  · have e2 : x0 = 16 := by rw [e, h1]; decide
    rw [e2]
    refine qr_mono (sf_82t4 (d := d + 0) hI) ?_
    rintro r w' ⟨rfl, v, rfl, hv, hp⟩
    exact ⟨rfl, v, rfl, by omega, by rw [hp]; decide⟩
  · have e2 : x0 = 32 := by rw [e, h1]; decide
    rw [e2]
    refine qr_mono (sf_82t5 (d := d + 0) hI) ?_
    rintro r w' ⟨rfl, v, rfl, hv, hp⟩
    exact ⟨rfl, v, rfl, by omega, by rw [hp]; decide⟩
  · have e2 : x0 = 64 := by rw [e, h1]; decide
    rw [e2]
    refine qr_mono (sf_82t6 (d := d + 0) hI) ?_
    rintro r w' ⟨rfl, v, rfl, hv, hp⟩
    exact ⟨rfl, v, rfl, by omega, by rw [hp]; decide⟩
  · have e2 : x0 = 128 := by rw [e, h1]; decide
    rw [e2]
    refine qr_mono (sf_82t7 (d := d + 0) hI) ?_
    rintro r w' ⟨rfl, v, rfl, hv, hp⟩
    exact ⟨rfl, v, rfl, by omega, by rw [hp]; decide⟩
  · have e2 : x0 = 256 := by rw [e, h1]; decide
    rw [e2]
    refine qr_mono (sf_82t8 (d := d + 0) hI) ?_
    rintro r w' ⟨rfl, v, rfl, hv, hp⟩
    exact ⟨rfl, v, rfl, by omega, by rw [hp]; decide⟩
  · have e2 : x0 = 512 := by rw [e, h1]; decide
    rw [e2]
    refine qr_mono (sf_82t9 (d := d + 0) hI) ?_
    rintro r w' ⟨rfl, v, rfl, hv, hp⟩
    exact ⟨rfl, v, rfl, by omega, by rw [hp]; decide⟩
  · have e2 : x0 = 1024 := by rw [e, h1]; decide
    rw [e2]
    refine qr_mono (sf_82t10 (d := d + 0) hI) ?_
    rintro r w' ⟨rfl, v, rfl, hv, hp⟩
    exact ⟨rfl, v, rfl, by omega, by rw [hp]; decide⟩
  · have e2 : x0 = 2048 := by rw [e, h1]; decide
    rw [e2]
    refine qr_mono (sf_82t11 (d := d + 0) hI) ?_
    rintro r w' ⟨rfl, v, rfl, hv, hp⟩
    exact ⟨rfl, v, rfl, by omega, by rw [hp]; decide⟩
  · have e2 : x0 = 4096 := by rw [e, h1]; decide
    rw [e2]
    refine qr_mono (sf_82t12 (d := d + 0) hI) ?_
    rintro r w' ⟨rfl, v, rfl, hv, hp⟩
    exact ⟨rfl, v, rfl, by omega, by rw [hp]; decide⟩
  · have e2 : x0 = 8192 := by rw [e, h1]; decide
    rw [e2]
    refine qr_mono (sf_82t13 (d := d + 0) hI) ?_
    rintro r w' ⟨rfl, v, rfl, hv, hp⟩
    exact ⟨rfl, v, rfl, by omega, by rw [hp]; decide⟩
  · have e2 : x0 = 16384 := by rw [e, h1]; decide
    rw [e2]
    refine qr_mono (sf_82t14 (d := d + 0) hI) ?_
    rintro r w' ⟨rfl, v, rfl, hv, hp⟩
    exact ⟨rfl, v, rfl, by omega, by rw [hp]; decide⟩
  · have e2 : x0 = 32768 := by rw [e, h1]; decide
    rw [e2]
    refine qr_mono (sf_82t15 (d := d + 0) hI) ?_
    rintro r w' ⟨rfl, v, rfl, hv, hp⟩
    exact ⟨rfl, v, rfl, by omega, by rw [hp]; decide⟩
  · have e2 : x0 = 65536 := by rw [e, h1]; decide
    rw [e2]
    refine qr_mono (sf_82t16 (d := d + 0) hI) ?_
    rintro r w' ⟨rfl, v, rfl, hv, hp⟩
    exact ⟨rfl, v, rfl, by omega, by rw [hp]; decide⟩
  · have e2 : x0 = 131072 := by rw [e, h1]; decide
    rw [e2]
    refine qr_mono (sf_82t17 (d := d + 0) hI) ?_
    rintro r w' ⟨rfl, v, rfl, hv, hp⟩
    exact ⟨rfl, v, rfl, by omega, by rw [hp]; decide⟩
  · have e2 : x0 = 262144 := by rw [e, h1]; decide
    rw [e2]
    refine qr_mono (sf_82t18 (d := d + 0) hI) ?_
    rintro r w' ⟨rfl, v, rfl, hv, hp⟩
    exact ⟨rfl, v, rfl, by omega, by rw [hp]; decide⟩
  · have e2 : x0 = 524288 := by rw [e, h1]; decide
    rw [e2]
    refine qr_mono (sf_82t19 (d := d + 0) hI) ?_
    rintro r w' ⟨rfl, v, rfl, hv, hp⟩
    exact ⟨rfl, v, rfl, by omega, by rw [hp]; decide⟩
  · have e2 : x0 = 1048576 := by rw [e, h1]; decide
    rw [e2]
    refine qr_mono (sf_82t20 (d := d + 0) hI) ?_
    rintro r w' ⟨rfl, v, rfl, hv, hp⟩
    exact ⟨rfl, v, rfl, by omega, by rw [hp]; decide⟩
  · have e2 : x0 = 2097152 := by rw [e, h1]; decide
    rw [e2]
    refine qr_mono (sf_82t21 (d := d + 0) hI) ?_
    rintro r w' ⟨rfl, v, rfl, hv, hp⟩
    exact ⟨rfl, v, rfl, by omega, by rw [hp]; decide⟩
  · have e2 : x0 = 4194304 := by rw [e, h1]; decide
    rw [e2]
    refine qr_mono (sf_82t22 (d := d + 0) hI) ?_
    rintro r w' ⟨rfl, v, rfl, hv, hp⟩
    exact ⟨rfl, v, rfl, by omega, by rw [hp]; decide⟩
  · have e2 : x0 = 8388608 := by rw [e, h1]; decide
    rw [e2]
    refine qr_mono (sf_82t23 (d := d + 0) hI) ?_
    rintro r w' ⟨rfl, v, rfl, hv, hp⟩
    exact ⟨rfl, v, rfl, by omega, by rw [hp]; decide⟩
  · have e2 : x0 = 16777216 := by rw [e, h1]; decide
    rw [e2]
    refine qr_mono (sf_82t24 (d := d + 0) hI) ?_
    rintro r w' ⟨rfl, v, rfl, hv, hp⟩
    exact ⟨rfl, v, rfl, by omega, by rw [hp]; decide⟩
  · have e2 : x0 = 33554432 := by rw [e, h1]; decide
    rw [e2]
    refine qr_mono (sf_82t25 (d := d + 0) hI) ?_
    rintro r w' ⟨rfl, v, rfl, hv, hp⟩
    exact ⟨rfl, v, rfl, by omega, by rw [hp]; decide⟩
  · have e2 : x0 = 67108864 := by rw [e, h1]; decide
    rw [e2]
    refine qr_mono (sf_82t26 (d := d + 0) hI) ?_
    rintro r w' ⟨rfl, v, rfl, hv, hp⟩
    exact ⟨rfl, v, rfl, by omega, by rw [hp]; decide⟩
  · have e2 : x0 = 134217728 := by rw [e, h1]; decide
    rw [e2]
    refine qr_mono (sf_82t27 (d := d + 0) hI) ?_
    rintro r w' ⟨rfl, v, rfl, hv, hp⟩
    exact ⟨rfl, v, rfl, by omega, by rw [hp]; decide⟩
  · have e2 : x0 = 268435456 := by rw [e, h1]; decide
    rw [e2]
    refine qr_mono (sf_82t28 (d := d + 0) hI) ?_
    rintro r w' ⟨rfl, v, rfl, hv, hp⟩
    exact ⟨rfl, v, rfl, by omega, by rw [hp]; decide⟩
  · have e2 : x0 = 536870912 := by rw [e, h1]; decide
    rw [e2]
    refine qr_mono (sf_82t29 (d := d + 0) hI) ?_
    rintro r w' ⟨rfl, v, rfl, hv, hp⟩
    exact ⟨rfl, v, rfl, by omega, by rw [hp]; decide⟩
  · have e2 : x0 = 1073741824 := by rw [e, h1]; decide
    rw [e2]
    refine qr_mono (sf_82t30 (d := d + 0) hI) ?_
    rintro r w' ⟨rfl, v, rfl, hv, hp⟩
    exact ⟨rfl, v, rfl, by omega, by rw [hp]; decide⟩
  · have e2 : x0 = 2147483648 := by rw [e, h1]; decide
    rw [e2]
    refine qr_mono (sf_82t31 (d := d + 0) hI) ?_
    rintro r w' ⟨rfl, v, rfl, hv, hp⟩
    exact ⟨rfl, v, rfl, by omega, by rw [hp]; decide⟩
  · have e2 : x0 = 4294967296 := by rw [e, h1]; decide
    rw [e2]
    refine qr_mono (sf_82t32 (d := d + 0) hI) ?_
    rintro r w' ⟨rfl, v, rfl, hv, hp⟩
    exact ⟨rfl, v, rfl, by omega, by rw [hp]; decide⟩
  · have e2 : x0 = 8589934592 := by rw [e, h1]; decide
    rw [e2]
    refine qr_mono (sf_82t33 (d := d + 0) hI) ?_
    rintro r w' ⟨rfl, v, rfl, hv, hp⟩
    exact ⟨rfl, v, rfl, by omega, by rw [hp]; decide⟩
  · have e2 : x0 = 17179869184 := by rw [e, h1]; decide
    rw [e2]
    refine qr_mono (sf_82t34 (d := d + 0) hI) ?_
    rintro r w' ⟨rfl, v, rfl, hv, hp⟩
    exact ⟨rfl, v, rfl, by omega, by rw [hp]; decide⟩
  · have e2 : x0 = 34359738368 := by rw [e, h1]; decide
    rw [e2]
    refine qr_mono (sf_82t35 (d := d + 0) hI) ?_
    rintro r w' ⟨rfl, v, rfl, hv, hp⟩
    exact ⟨rfl, v, rfl, by omega, by rw [hp]; decide⟩
  · have e2 : x0 = 68719476736 := by rw [e, h1]; decide
    rw [e2]
    refine qr_mono (sf_82t36 (d := d + 0) hI) ?_
    rintro r w' ⟨rfl, v, rfl, hv, hp⟩
    exact ⟨rfl, v, rfl, by omega, by rw [hp]; decide⟩
  · have e2 : x0 = 137438953472 := by rw [e, h1]; decide
    rw [e2]
    refine qr_mono (sf_82t37 (d := d + 0) hI) ?_
    rintro r w' ⟨rfl, v, rfl, hv, hp⟩
    exact ⟨rfl, v, rfl, by omega, by rw [hp]; decide⟩
  · have e2 : x0 = 274877906944 := by rw [e, h1]; decide
    rw [e2]
    refine qr_mono (sf_82t38 (d := d + 0) hI) ?_
    rintro r w' ⟨rfl, v, rfl, hv, hp⟩
    exact ⟨rfl, v, rfl, by omega, by rw [hp]; decide⟩
  · have e2 : x0 = 549755813888 := by rw [e, h1]; decide
    rw [e2]
    refine qr_mono (sf_82t39 (d := d + 0) hI) ?_
    rintro r w' ⟨rfl, v, rfl, hv, hp⟩
    exact ⟨rfl, v, rfl, by omega, by rw [hp]; decide⟩
  · have e2 : x0 = 1099511627776 := by rw [e, h1]; decide
    rw [e2]
    refine qr_mono (sf_82t40 (d := d + 0) hI) ?_
    rintro r w' ⟨rfl, v, rfl, hv, hp⟩
    exact ⟨rfl, v, rfl, by omega, by rw [hp]; decide⟩
  · have e2 : x0 = 2199023255552 := by rw [e, h1]; decide
    rw [e2]
    refine qr_mono (sf_82t41 (d := d + 0) hI) ?_
    rintro r w' ⟨rfl, v, rfl, hv, hp⟩
    exact ⟨rfl, v, rfl, by omega, by rw [hp]; decide⟩
  · have e2 : x0 = 4398046511104 := by rw [e, h1]; decide
    rw [e2]
    refine qr_mono (sf_82t42 (d := d + 0) hI) ?_
    rintro r w' ⟨rfl, v, rfl, hv, hp⟩
    exact ⟨rfl, v, rfl, by omega, by rw [hp]; decide⟩
  · have e2 : x0 = 8796093022208 := by rw [e, h1]; decide
    rw [e2]
    refine qr_mono (sf_82t43 (d := d + 0) hI) ?_
    rintro r w' ⟨rfl, v, rfl, hv, hp⟩
    exact ⟨rfl, v, rfl, by omega, by rw [hp]; decide⟩
  · have e2 : x0 = 17592186044416 := by rw [e, h1]; decide
    rw [e2]
    refine qr_mono (sf_82t44 (d := d + 0) hI) ?_
    rintro r w' ⟨rfl, v, rfl, hv, hp⟩
    exact ⟨rfl, v, rfl, by omega, by rw [hp]; decide⟩
  · have e2 : x0 = 35184372088832 := by rw [e, h1]; decide
    rw [e2]
    refine qr_mono (sf_82t45 (d := d + 0) hI) ?_
    rintro r w' ⟨rfl, v, rfl, hv, hp⟩
    exact ⟨rfl, v, rfl, by omega, by rw [hp]; decide⟩
  · have e2 : x0 = 70368744177664 := by rw [e, h1]; decide
    rw [e2]
    refine qr_mono (sf_82t46 (d := d + 0) hI) ?_
    rintro r w' ⟨rfl, v, rfl, hv, hp⟩
    exact ⟨rfl, v, rfl, by omega, by rw [hp]; decide⟩
  · have e2 : x0 = 140737488355328 := by rw [e, h1]; decide
    rw [e2]
    refine qr_mono (sf_82t47 (d := d + 0) hI) ?_
    rintro r w' ⟨rfl, v, rfl, hv, hp⟩
    exact ⟨rfl, v, rfl, by omega, by rw [hp]; decide⟩
  · have e2 : x0 = 281474976710656 := by rw [e, h1]; decide
    rw [e2]
    refine qr_mono (sf_82t48 (d := d + 0) hI) ?_
    rintro r w' ⟨rfl, v, rfl, hv, hp⟩
    exact ⟨rfl, v, rfl, by omega, by rw [hp]; decide⟩
  · have e2 : x0 = 562949953421312 := by rw [e, h1]; decide
    rw [e2]
    refine qr_mono (sf_82t49 (d := d + 0) hI) ?_
    rintro r w' ⟨rfl, v, rfl, hv, hp⟩
    exact ⟨rfl, v, rfl, by omega, by rw [hp]; decide⟩
  · have e2 : x0 = 1125899906842624 := by rw [e, h1]; decide
    rw [e2]
    refine qr_mono (sf_82t50 (d := d + 0) hI) ?_
    rintro r w' ⟨rfl, v, rfl, hv, hp⟩
    exact ⟨rfl, v, rfl, by omega, by rw [hp]; decide⟩
  · have e2 : x0 = 2251799813685248 := by rw [e, h1]; decide
    rw [e2]
    refine qr_mono (sf_82t51 (d := d + 0) hI) ?_
    rintro r w' ⟨rfl, v, rfl, hv, hp⟩
    exact ⟨rfl, v, rfl, by omega, by rw [hp]; decide⟩
  · have e2 : x0 = 4503599627370496 := by rw [e, h1]; decide
    rw [e2]
    refine qr_mono (sf_82t52 (d := d + 0) hI) ?_
    rintro r w' ⟨rfl, v, rfl, hv, hp⟩
    exact ⟨rfl, v, rfl, by omega, by rw [hp]; decide⟩
  · have e2 : x0 = 9007199254740992 := by rw [e, h1]; decide
    rw [e2]
    refine qr_mono (sf_82t53 (d := d + 0) hI) ?_
    rintro r w' ⟨rfl, v, rfl, hv, hp⟩
    exact ⟨rfl, v, rfl, by omega, by rw [hp]; decide⟩
  · have e2 : x0 = 18014398509481984 := by rw [e, h1]; decide
    rw [e2]
    refine qr_mono (sf_82t54 (d := d + 0) hI) ?_
    rintro r w' ⟨rfl, v, rfl, hv, hp⟩
    exact ⟨rfl, v, rfl, by omega, by rw [hp]; decide⟩
  · have e2 : x0 = 36028797018963968 := by rw [e, h1]; decide
    rw [e2]
    refine qr_mono (sf_82t55 (d := d + 0) hI) ?_
    rintro r w' ⟨rfl, v, rfl, hv, hp⟩
    exact ⟨rfl, v, rfl, by omega, by rw [hp]; decide⟩
  · have e2 : x0 = 72057594037927936 := by rw [e, h1]; decide
    rw [e2]
    refine qr_mono (sf_82t56 (d := d + 0) hI) ?_
    rintro r w' ⟨rfl, v, rfl, hv, hp⟩
    exact ⟨rfl, v, rfl, by omega, by rw [hp]; decide⟩
  · have e2 : x0 = 144115188075855872 := by rw [e, h1]; decide
    rw [e2]
    refine qr_mono (sf_82t57 (d := d + 0) hI) ?_
    rintro r w' ⟨rfl, v, rfl, hv, hp⟩
    exact ⟨rfl, v, rfl, by omega, by rw [hp]; decide⟩
  · have e2 : x0 = 288230376151711744 := by rw [e, h1]; decide
    rw [e2]
    refine qr_mono (sf_82t58 (d := d + 0) hI) ?_
    rintro r w' ⟨rfl, v, rfl, hv, hp⟩
    exact ⟨rfl, v, rfl, by omega, by rw [hp]; decide⟩
  · have e2 : x0 = 576460752303423488 := by rw [e, h1]; decide
    rw [e2]
    refine qr_mono (sf_82t59 (d := d + 0) hI) ?_
    rintro r w' ⟨rfl, v, rfl, hv, hp⟩
    exact ⟨rfl, v, rfl, by omega, by rw [hp]; decide⟩

set_option maxHeartbeats 4000000 in
set_option maxRecDepth 20000 in
/-- OneRoof.proof -/
theorem sf_81_16x {L : Nat} {xs : Nat → Int} {vb : Bool} {d : Nat} {σ α : Nat → Nat → Int} {κ : Nat → Option Nat} {ρ : Nat} {x1 : Int} {x2 : Int} (hI : qI σ α κ ρ) (r1 : (-2147483648) ≤ x1 ∧ x1 ≤ 2147483647) (r2 : (-2147483648) ≤ x2 ∧ x2 ≤ 2147483647) (p0 : qZp σ α) : qm_T (qe L xs vb) (d + 3) 81 [.ref 16, .int (qz x1), .int (qz x2)] (qw σ α κ ρ) (fun r w' => w' = qw σ α κ ρ ∧ ∃ v : Int, r = some (.int (qz v)) ∧ ((-2147483648) ≤ v ∧ v ≤ 2147483647) ∧ ((v = -1 ∧ ¬ (0 ≤ x1 ∧ x1 / 100 < σ 17 6 ∧ x1 % 100 < σ 17 6 ∧ ¬ x1 / 100 = x1 % 100 ∧ 0 ≤ x2 ∧ x2 ≤ 2399)) ∨ ((0 ≤ x1 ∧ x1 / 100 < σ 17 6 ∧ x1 % 100 < σ 17 6 ∧ ¬ x1 / 100 = x1 % 100 ∧ 0 ≤ x2 ∧ x2 ≤ 2399) ∧ ((qsm (qhF (α 35) (α 36) (α 37) (α 40) (qcv (α 41)) (qlw (α 22)) (x1 / 100) (x1 % 100) x2) (σ 34 7 : Int).toNat = 1 ∧ v = qlt (qhF (α 35) (α 36) (α 37) (α 40) (qcv (α 41)) (qlw (α 22)) (x1 / 100) (x1 % 100) x2) (σ 34 7 : Int).toNat) ∨ (¬ qsm (qhF (α 35) (α 36) (α 37) (α 40) (qcv (α 41)) (qlw (α 22)) (x1 / 100) (x1 % 100) x2) (σ 34 7 : Int).toNat = 1 ∧ v = -2))))) := by
  refine qr_start (d := d + 2) qv_e81 (Nat.le_of_ble_eq_true rfl) ?_
  show qr_W (qe L xs vb) (d + 2) qx_e81 _ (0, [(0, .ref 16), (1, .int (qz x1)), (2, .int (qz x2))], [], _, 0, 0)
  have hz17_6 : 0 ≤ σ 17 6 ∧ σ 17 6 ≤ 32 := hI.1 17 6
  have hz34_7 : 0 ≤ σ 34 7 ∧ σ 34 7 ≤ 60 := hI.1 34 7
  refine qr_aload_n 1 rfl rfl rfl ?_
  refine qr_get 4 rfl rfl rfl (by decide) rfl ?_
  refine qr_iload_n 5 rfl rfl rfl ?_
  refine qr_callN 8 rfl rfl rfl (sf_61_17 (d := d + 0) hI r1) ?_
  have hs3 : 0 ≤ σ 17 6 ∧ σ 17 6 ≤ 32 := hI.1 17 6
  rintro _ _ ⟨rfl, v1, rfl, hv1, hp2⟩
  show qr_W (qe L xs vb) (d + 2) qx_e81 _ (8, _, [.int (qz v1)], qw σ α κ ρ, 0, 0)
  refine qr_if_eq 18 11 rfl rfl rfl (qrg hv1 (by decide) (by decide)) (fun h4 => ?_) (fun h4 => ?_)
  · skip
    refine qr_iconst 19 rfl rfl ?_
    refine qr_retI rfl rfl (by decide) (by decide) ?_
    exact ⟨rfl, (-1), rfl, (by decide), (by omega)⟩
  · skip
    refine qr_iload_n 12 rfl rfl rfl ?_
    refine qr_callN 15 rfl rfl rfl (sf_62 (d := d + 1) hI r2) ?_
    rintro _ _ ⟨rfl, v5, rfl, hv5, hp6⟩
    show qr_W (qe L xs vb) (d + 2) qx_e81 _ (15, _, [.int (qz v5)], qw σ α κ ρ, 0, 0)
    refine qr_if_ne 20 18 rfl rfl rfl (qrg hv5 (by decide) (by decide)) (fun h7 => ?_) (fun h7 => ?_)
    · skip
      refine qr_aload_n 21 rfl rfl rfl ?_
      refine qr_get 24 rfl rfl rfl (by decide) rfl ?_
      refine qr_iload_n 25 rfl rfl rfl ?_
      refine qr_bipush 27 rfl (by decide) rfl ?_
      refine qr_idiv 28 rfl (by omega) (by decide) rfl ?_
      refine qr_iload_n 29 rfl rfl rfl ?_
      refine qr_bipush 31 rfl (by decide) rfl ?_
      refine qr_irem 32 rfl (by omega) (by decide) rfl ?_
      refine qr_iload_n 33 rfl rfl rfl ?_
      refine qr_aload_n 34 rfl rfl rfl ?_
      refine qr_get 37 rfl rfl rfl (by decide) rfl ?_
      refine qr_callN 40 rfl rfl rfl (sf_80_34_17x (d := d + 0) hI (by omega) (by omega) r2 (by omega) p0) ?_
      have hs10 : 0 ≤ σ 34 7 ∧ σ 34 7 ≤ 60 := hI.1 34 7
      rintro _ _ ⟨rfl, v8, rfl, hv8, hp9⟩
      show qr_W (qe L xs vb) (d + 2) qx_e81 _ (40, _, [.long (ql v8)], qw σ α κ ρ, 0, 0)
      refine qr_lstore_n _ 41 rfl (by decide) rfl rfl ?_
      refine qr_lload_n 42 rfl rfl rfl ?_
      refine qr_callN 45 rfl rfl rfl (sf_74c (d := d + 1) hI hv8) ?_
      rintro _ _ ⟨rfl, v11, rfl, hv11, hp12⟩
      show qr_W (qe L xs vb) (d + 2) qx_e81 _ (45, _, [.int (qz v11)], qw σ α κ ρ, 0, 0)
      refine qr_iconst 46 rfl rfl ?_
      refine qr_icmp_ne 56 49 rfl rfl rfl (qrg hv11 (by decide) (by decide)) (by decide) (fun h13 => ?_) (fun h13 => ?_)
      · skip
        refine qr_bipush 58 rfl (by decide) rfl ?_
        refine qr_retI rfl rfl (by decide) (by decide) ?_
        exact ⟨rfl, (-2), rfl, (by decide), (by have hq := qbs_cn (f := qhF (α 35) (α 36) (α 37) (α 40) (qcv (α 41)) (qlw (α 22)) (x1 / 100) (x1 % 100) x2) (fun k => qho_01 _ _ _ _ _ _ _ _ _ _ _) (n := (σ 34 7 : Int).toNat) (by omega); rw [← hp9] at hq; omega)⟩
      · skip
        refine qr_lload_n 50 rfl rfl rfl ?_
        refine qr_callN 53 rfl rfl rfl (sf_82p (d := d + 0) hI hv8 (by have hq := qbs_cn (f := qhF (α 35) (α 36) (α 37) (α 40) (qcv (α 41)) (qlw (α 22)) (x1 / 100) (x1 % 100) x2) (fun k => qho_01 _ _ _ _ _ _ _ _ _ _ _) (n := (σ 34 7 : Int).toNat) (by omega); rw [← hp9] at hq; rw [hp9]; exact qpf_e (f := qhF (α 35) (α 36) (α 37) (α 40) (qcv (α 41)) (qlw (α 22)) (x1 / 100) (x1 % 100) x2) (fun k => qho_01 _ _ _ _ _ _ _ _ _ _ _) (n := (σ 34 7 : Int).toNat) (by omega) (by omega))) ?_
        rintro _ _ ⟨rfl, v14, rfl, hv14, hp15⟩
        show qr_W (qe L xs vb) (d + 2) qx_e81 _ (53, _, [.int (qz v14)], qw σ α κ ρ, 0, 0)
        refine qr_goto 58 rfl rfl ?_
        refine qr_retI rfl rfl (by decide) (by decide) ?_
        exact ⟨rfl, v14, rfl, (qrg hv14 (by decide) (by decide)), (by have hq := qbs_cn (f := qhF (α 35) (α 36) (α 37) (α 40) (qcv (α 41)) (qlw (α 22)) (x1 / 100) (x1 % 100) x2) (fun k => qho_01 _ _ _ _ _ _ _ _ _ _ _) (n := (σ 34 7 : Int).toNat) (by omega); rw [← hp9] at hq; have h4 := qpf_v (f := qhF (α 35) (α 36) (α 37) (α 40) (qcv (α 41)) (qlw (α 22)) (x1 / 100) (x1 % 100) x2) (fun k => qho_01 _ _ _ _ _ _ _ _ _ _ _) (n := (σ 34 7 : Int).toNat) (by omega) (by omega) (w := v14) (by omega) (by rw [← hp9]; exact hp15); omega)⟩
    · skip
      refine qr_iconst 19 rfl rfl ?_
      refine qr_retI rfl rfl (by decide) (by decide) ?_
      exact ⟨rfl, (-1), rfl, (by decide), (by omega)⟩

set_option maxHeartbeats 4000000 in
theorem rl_proof {σ α : Nat → Nat → Int} {κ : Nat → Option Nat} {ρ : Nat} {x1 x2 v1 v2 : Int} (hI : qI σ α κ ρ) (hR : qR σ α) (hP : qRP σ α) (hH : qRH σ α) (hL : qRL σ α) (hN : qRN σ α) (hx : ((v1 = -1 ∧ ¬ (0 ≤ x1 ∧ x1 / 100 < σ 17 6 ∧ x1 % 100 < σ 17 6 ∧ ¬ x1 / 100 = x1 % 100 ∧ 0 ≤ x2 ∧ x2 ≤ 2399)) ∨ ((0 ≤ x1 ∧ x1 / 100 < σ 17 6 ∧ x1 % 100 < σ 17 6 ∧ ¬ x1 / 100 = x1 % 100 ∧ 0 ≤ x2 ∧ x2 ≤ 2399) ∧ ((qsm (qhF (α 35) (α 36) (α 37) (α 40) (qcv (α 41)) (qlw (α 22)) (x1 / 100) (x1 % 100) x2) (σ 34 7 : Int).toNat = 1 ∧ v1 = qlt (qhF (α 35) (α 36) (α 37) (α 40) (qcv (α 41)) (qlw (α 22)) (x1 / 100) (x1 % 100) x2) (σ 34 7 : Int).toNat) ∨ (¬ qsm (qhF (α 35) (α 36) (α 37) (α 40) (qcv (α 41)) (qlw (α 22)) (x1 / 100) (x1 % 100) x2) (σ 34 7 : Int).toNat = 1 ∧ v1 = -2))))) (hy : ((v2 = -1 ∧ ¬ (0 ≤ x1 ∧ x1 / 100 < σ 86 6 ∧ x1 % 100 < σ 86 6 ∧ ¬ x1 / 100 = x1 % 100 ∧ 0 ≤ x2 ∧ x2 ≤ 2399)) ∨ ((0 ≤ x1 ∧ x1 / 100 < σ 86 6 ∧ x1 % 100 < σ 86 6 ∧ ¬ x1 / 100 = x1 % 100 ∧ 0 ≤ x2 ∧ x2 ≤ 2399) ∧ ((qsm (qhG (σ 86 29) (qhF (qsh (α 87) 192) (α 102) (α 103) (qun (α 104) (α 105) (qsh (α 87) 192)) (qcw (α 87)) (qll (α 91)) (x1 / 100) (x1 % 100) x2)) (σ 86 24 : Int).toNat = 1 ∧ v2 = qlt (qhG (σ 86 29) (qhF (qsh (α 87) 192) (α 102) (α 103) (qun (α 104) (α 105) (qsh (α 87) 192)) (qcw (α 87)) (qll (α 91)) (x1 / 100) (x1 % 100) x2)) (σ 86 24 : Int).toNat) ∨ (¬ qsm (qhG (σ 86 29) (qhF (qsh (α 87) 192) (α 102) (α 103) (qun (α 104) (α 105) (qsh (α 87) 192)) (qcw (α 87)) (qll (α 91)) (x1 / 100) (x1 % 100) x2)) (σ 86 24 : Int).toNat = 1 ∧ v2 = -2))))) : v1 = v2 := by
  have b6 : 0 ≤ σ 86 6 ∧ σ 86 6 ≤ 32 := hI.1 86 6
  have b24 : 0 ≤ σ 86 24 ∧ σ 86 24 ≤ 60 := hI.1 86 24
  have e6 := hR.1
  have e24 := hR.2.2.1
  by_cases c : (0 ≤ x1 / 100 ∧ x1 / 100 < σ 86 6) ∧ (0 ≤ x1 % 100 ∧ x1 % 100 < σ 86 6)
  · have hf : ∀ k : Nat, k < (σ 86 24 : Int).toNat → (qhF (α 35) (α 36) (α 37) (α 40) (qcv (α 41)) (qlw (α 22)) (x1 / 100) (x1 % 100) x2) k = (qhG (σ 86 29) (qhF (qsh (α 87) 192) (α 102) (α 103) (qun (α 104) (α 105) (qsh (α 87) 192)) (qcw (α 87)) (qll (α 91)) (x1 / 100) (x1 % 100) x2)) k := fun k hk => by
      have h1 := qrr_h hI hR hP hH hL (h := x2) c.1 c.2 (k := k) (by omega)
      rw [h1, hN.2.2.2.2.1]
      unfold qhG
      rw [qbit_0]
      exact (if_neg (by decide)).symm
    have hk : qsm (qhF (α 35) (α 36) (α 37) (α 40) (qcv (α 41)) (qlw (α 22)) (x1 / 100) (x1 % 100) x2) (σ 34 7 : Int).toNat = qsm (qhG (σ 86 29) (qhF (qsh (α 87) 192) (α 102) (α 103) (qun (α 104) (α 105) (qsh (α 87) 192)) (qcw (α 87)) (qll (α 91)) (x1 / 100) (x1 % 100) x2)) (σ 86 24 : Int).toNat := by
      rw [e24]
      exact qsm_eq _ hf
    have hl : qlt (qhF (α 35) (α 36) (α 37) (α 40) (qcv (α 41)) (qlw (α 22)) (x1 / 100) (x1 % 100) x2) (σ 34 7 : Int).toNat = qlt (qhG (σ 86 29) (qhF (qsh (α 87) 192) (α 102) (α 103) (qun (α 104) (α 105) (qsh (α 87) 192)) (qcw (α 87)) (qll (α 91)) (x1 / 100) (x1 % 100) x2)) (σ 86 24 : Int).toNat := by
      rw [e24]
      exact qlt_eq _ hf
    omega
  · omega
