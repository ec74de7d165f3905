section QYL
variable {X : qm_X} {d : Nat} {x : qs_Ent} {Q : Option Value → qm_W → Prop} {pc : Nat} {ls : qm_L} {st : List Value} {w : qm_W} {c n : Nat}
theorem qy_low {a : Int} (h : (-2147483648 ≤ a ∧ a ≤ 2147483647) ∧ ¬ a = 0) (k : ∀ v : Int, ((-2147483648 ≤ v ∧ v ≤ 2147483647) ∧ ((qz v).toBitVec.toNat : Int) < ((qz a).toBitVec.toNat : Int)) → qr_W X d x Q (pc, ls, .int (qz v) :: st, w, c, n)) : qr_W X d x Q (pc, ls, .int (qz (qz_and a (a - 1))) :: st, w, c, n) := by
  refine k _ ⟨qz_rng _, ?_⟩
  have e1 : qz (qz_and a (a - 1)) = qz a &&& (qz a - qz 1) := by unfold qz_and; rw [← qz_of, qz_sub]
  have e2 : (qz a).toBitVec.toNat ≠ 0 := fun h0 => h.2 (by
    have h1 : (qz a).toBitVec = 0#32 := BitVec.eq_of_toNat_eq h0
    have h2 : (qz a).toInt = a := qz_ti h.1
    have h3 : (qz a).toInt = (qz a).toBitVec.toInt := rfl
    rw [h1] at h3
    rw [← h2, h3]
    rfl)
  have e3 : (qz a &&& (qz a - qz 1)).toBitVec.toNat ≤ (qz a - qz 1).toBitVec.toNat := by rw [Int32.toBitVec_and, BitVec.toNat_and]; exact Nat.and_le_right
  have e4 : (qz a - qz 1).toBitVec.toNat = (4294967296 - 1 + (qz a).toBitVec.toNat) % 4294967296 := by rw [Int32.toBitVec_sub, BitVec.toNat_sub]; rfl
  have e5 : (qz a).toBitVec.toNat < 4294967296 := (qz a).toBitVec.isLt
  rw [e1]
  omega
theorem qy_lowl {a : Int} (h : (-9223372036854775808 ≤ a ∧ a ≤ 9223372036854775807) ∧ ¬ a = 0) (k : ∀ v : Int, ((-9223372036854775808 ≤ v ∧ v ≤ 9223372036854775807) ∧ ((ql v).toBitVec.toNat : Int) < ((ql a).toBitVec.toNat : Int)) → qr_W X d x Q (pc, ls, .long (ql v) :: st, w, c, n)) : qr_W X d x Q (pc, ls, .long (ql (ql_and a (a - 1))) :: st, w, c, n) := by
  refine k _ ⟨ql_rng _, ?_⟩
  have e1 : ql (ql_and a (a - 1)) = ql a &&& (ql a - ql 1) := by unfold ql_and; rw [← ql_of, ql_sub]
  have e2 : (ql a).toBitVec.toNat ≠ 0 := fun h0 => h.2 (by
    have h1 : (ql a).toBitVec = 0#64 := BitVec.eq_of_toNat_eq h0
    have h2 : (ql a).toInt = a := ql_ti h.1
    have h3 : (ql a).toInt = (ql a).toBitVec.toInt := rfl
    rw [h1] at h3
    rw [← h2, h3]
    rfl)
  have e3 : (ql a &&& (ql a - ql 1)).toBitVec.toNat ≤ (ql a - ql 1).toBitVec.toNat := by rw [Int64.toBitVec_and, BitVec.toNat_and]; exact Nat.and_le_right
  have e4 : (ql a - ql 1).toBitVec.toNat = (18446744073709551616 - 1 + (ql a).toBitVec.toNat) % 18446744073709551616 := by rw [Int64.toBitVec_sub, BitVec.toNat_sub]; rfl
  have e5 : (ql a).toBitVec.toNat < 18446744073709551616 := (ql a).toBitVec.isLt
  rw [e1]
  omega
end QYL

set_option maxHeartbeats 4000000 in
set_option maxRecDepth 20000 in
/-- OneRoofModel.bitsOf -/
theorem sf_236 {L : Nat} {xs : Nat → Int} {vb : Bool} {d : Nat} {σ α : Nat → Nat → Int} {κ : Nat → Option Nat} {ρ : Nat} {x0 : Int} (hI : qI σ α κ ρ) (r0 : (-2147483648) ≤ x0 ∧ x0 ≤ 2147483647) : qm_T (qe L xs vb) (d + 1) 236 [.int (qz x0)] (qw σ α κ ρ) (fun r w' => w' = qw σ α κ ρ ∧ ∃ v : Int, r = some (.int (qz v)) ∧ ((-2147483648) ≤ v ∧ v ≤ 2147483647)) := by
  refine qr_start (d := d + 0) qv_e236 (Nat.le_of_ble_eq_true rfl) ?_
  show qr_W (qe L xs vb) (d + 0) qx_e236 _ (0, [(0, .int (qz x0))], [], _, 0, 0)
  refine qr_iconst 1 rfl rfl ?_
  refine qr_istore_n _ 2 rfl (by decide) rfl rfl ?_
  refine qr_iload_n 3 rfl rfl rfl ?_
  refine qr_istore_n _ 4 rfl (by decide) rfl rfl ?_
  have hL262 : ∀ (n : Nat) (ls : qm_L) (u257 u259 : Int), ((qz u259).toBitVec.toNat : Int) < (n : Int) → qm_get ls 1 = some (.int (qz u257)) → qm_get ls 2 = some (.int (qz u259)) → ((-2147483648) ≤ u257 ∧ u257 ≤ 2147483647) → ((-2147483648) ≤ u259 ∧ u259 ≤ 2147483647) → qr_W (qe L xs vb) (d + 0) qx_e236 (fun r w' => w' = qw σ α κ ρ ∧ ∃ v : Int, r = some (.int (qz v)) ∧ ((-2147483648) ≤ v ∧ v ≤ 2147483647)) (4, ls, [], qw σ α κ ρ, 0, 0) := by
    intro n
    induction n with
    | zero => intro ls u257 u259 hm g256 g258 hf260 hf261; exact False.elim (by omega)
    | succ n ih263 =>
      intro ls u257 u259 hm g256 g258 hf260 hf261
      refine qr_iload_n 5 rfl g258 rfl ?_
      refine qr_if_eq 20 8 rfl rfl rfl (by omega) (fun h264 => ?_) (fun h264 => ?_)
      · skip
        refine qr_iload_n 21 rfl g256 rfl ?_
        refine qr_retI rfl rfl (by decide) (by decide) ?_
        exact ⟨rfl, u257, rfl, by omega⟩
      · skip
        refine qy_iincC 11 rfl g256 (by decide) rfl (fun v265 hv265 => ?_)
        refine qr_iload_n 12 rfl (qm_gk g258 (by decide) (Or.inl (by decide))) rfl ?_
        refine qr_iload_n 13 rfl (qm_gk g258 (by decide) (Or.inl (by decide))) rfl ?_
        refine qr_iconst 14 rfl rfl ?_
        refine qr_isub 15 rfl rfl ?_
        refine qr_iand 16 rfl rfl ?_
        refine qy_low (by omega) (fun v266 hv266 => ?_)
        refine qr_istore_n _ 17 rfl (by decide) rfl rfl ?_
        refine qr_goto 4 rfl rfl ?_
        exact ih263 _ v265 v266 (by omega) (qm_gk (qm_ge _ _ _) (by decide) (Or.inr rfl)) (qm_ge _ _ _) (by omega) (by omega)
  exact hL262 ((((qz x0).toBitVec.toNat : Int) + 1 : Int)).toNat _ 0 x0 (by omega) rfl rfl (by omega) (by omega)

set_option maxHeartbeats 4000000 in
set_option maxRecDepth 20000 in
/-- OneRoofModel.bitsIn -/
theorem sf_253 {L : Nat} {xs : Nat → Int} {vb : Bool} {d : Nat} {σ α : Nat → Nat → Int} {κ : Nat → Option Nat} {ρ : Nat} {x0 : Int} (hI : qI σ α κ ρ) (r0 : (-9223372036854775808) ≤ x0 ∧ x0 ≤ 9223372036854775807) : qm_T (qe L xs vb) (d + 1) 253 [.long (ql x0)] (qw σ α κ ρ) (fun r w' => w' = qw σ α κ ρ ∧ ∃ v : Int, r = some (.int (qz v)) ∧ ((-2147483648) ≤ v ∧ v ≤ 2147483647)) := by
  refine qr_start (d := d + 0) qv_e253 (Nat.le_of_ble_eq_true rfl) ?_
  show qr_W (qe L xs vb) (d + 0) qx_e253 _ (0, [(0, .long (ql x0))], [], _, 0, 0)
  refine qr_iconst 1 rfl rfl ?_
  refine qr_istore_n _ 2 rfl (by decide) rfl rfl ?_
  refine qr_lload_n 3 rfl rfl rfl ?_
  refine qr_lstore_n _ 4 rfl (by decide) rfl rfl ?_
  have hL262 : ∀ (n : Nat) (ls : qm_L) (u257 u259 : Int), ((ql u259).toBitVec.toNat : Int) < (n : Int) → qm_get ls 2 = some (.int (qz u257)) → qm_get ls 3 = some (.long (ql u259)) → ((-2147483648) ≤ u257 ∧ u257 ≤ 2147483647) → ((-9223372036854775808) ≤ u259 ∧ u259 ≤ 9223372036854775807) → qr_W (qe L xs vb) (d + 0) qx_e253 (fun r w' => w' = qw σ α κ ρ ∧ ∃ v : Int, r = some (.int (qz v)) ∧ ((-2147483648) ≤ v ∧ v ≤ 2147483647)) (4, ls, [], qw σ α κ ρ, 0, 0) := by
    intro n
    induction n with
    | zero => intro ls u257 u259 hm g256 g258 hf260 hf261; exact False.elim (by omega)
    | succ n ih263 =>
      intro ls u257 u259 hm g256 g258 hf260 hf261
      refine qr_lload_n 5 rfl g258 rfl ?_
      refine qr_lconst 6 rfl rfl ?_
      refine qy_vl 0 rfl ?_
      refine qr_lc_eq 22 10 rfl rfl rfl rfl (by omega) (by omega) (fun h264 => ?_) (fun h264 => ?_)
      · skip
        refine qr_iload_n 23 rfl g256 rfl ?_
        refine qr_retI rfl rfl (by decide) (by decide) ?_
        exact ⟨rfl, u257, rfl, by omega⟩
      · skip
        refine qy_iincC 13 rfl g256 (by decide) rfl (fun v265 hv265 => ?_)
        refine qr_lload_n 14 rfl (qm_gk g258 (by decide) (Or.inl (by decide))) rfl ?_
        refine qr_lload_n 15 rfl (qm_gk g258 (by decide) (Or.inl (by decide))) rfl ?_
        refine qr_lconst 16 rfl rfl ?_
        refine qy_vl 1 rfl ?_
        refine qr_lsub 17 rfl rfl ?_
        refine qr_land 18 rfl rfl ?_
        refine qy_lowl (by omega) (fun v266 hv266 => ?_)
        refine qr_lstore_n _ 19 rfl (by decide) rfl rfl ?_
        refine qr_goto 4 rfl rfl ?_
        exact ih263 _ v265 v266 (by omega) (qm_gk2 (qm_ge _ _ _) (by decide) (by decide) (Or.inr rfl)) (qm_ge2 _ _ _) (by omega) (by omega)
  exact hL262 ((((ql x0).toBitVec.toNat : Int) + 1 : Int)).toNat _ 0 x0 (by omega) rfl rfl (by omega) (by omega)

set_option maxHeartbeats 4000000 in
set_option maxRecDepth 20000 in
/-- OneRoofModel.count -/
theorem sf_271_86 {L : Nat} {xs : Nat → Int} {vb : Bool} {d : Nat} {σ α : Nat → Nat → Int} {κ : Nat → Option Nat} {ρ : Nat} {x1 : Int} (hI : qI σ α κ ρ) (r1 : (-2147483648) ≤ x1 ∧ x1 ≤ 2147483647) : qm_T (qe L xs vb) (d + 2) 271 [.ref 86, .int (qz x1)] (qw σ α κ ρ) (fun r w' => w' = qw σ α κ ρ ∧ ∃ v : Int, r = some (.int (qz v)) ∧ ((-2147483648) ≤ v ∧ v ≤ 2147483647)) := by
  refine qr_start (d := d + 1) qv_e271 (Nat.le_of_ble_eq_true rfl) ?_
  show qr_W (qe L xs vb) (d + 1) qx_e271 _ (0, [(0, .ref 86), (1, .int (qz x1))], [], _, 0, 0)
  refine qr_iload_n 1 rfl rfl rfl ?_
  have h1 : x1 = 0 ∨ x1 = 1 ∨ x1 = 2 ∨ x1 = 3 ∨ x1 = 4 ∨ x1 = 5 ∨ x1 = 6 ∨ x1 = 7 ∨ (x1 < 0 ∨ 7 < x1) := by omega
  rcases h1 with h1 | h1 | h1 | h1 | h1 | h1 | h1 | h1 | h1
  · skip
    refine qr_tabIn 48 rfl (by omega) (by omega) (by rw [h1]; rfl) rfl ?_
    refine qr_aload_n 49 rfl rfl rfl ?_
    refine qr_get 52 rfl rfl rfl (by decide) rfl ?_
    have hs3 : 0 ≤ σ 86 6 ∧ σ 86 6 ≤ 32 := hI.1 86 6
    refine qr_retI rfl rfl (by decide) (by decide) ?_
    exact ⟨rfl, (σ 86 6), rfl, by omega⟩
  · skip
    refine qr_tabIn 53 rfl (by omega) (by omega) (by rw [h1]; rfl) rfl ?_
    refine qr_aload_n 54 rfl rfl rfl ?_
    refine qr_get 57 rfl rfl rfl (by decide) rfl ?_
    have hs4 : 0 ≤ σ 86 11 ∧ σ 86 11 ≤ 61 := hI.1 86 11
    refine qr_retI rfl rfl (by decide) (by decide) ?_
    exact ⟨rfl, (σ 86 11), rfl, by omega⟩
  · skip
    refine qr_tabIn 58 rfl (by omega) (by omega) (by rw [h1]; rfl) rfl ?_
    refine qr_aload_n 59 rfl rfl rfl ?_
    refine qr_get 62 rfl rfl rfl (by decide) rfl ?_
    have hs5 : 0 ≤ σ 86 16 ∧ σ 86 16 ≤ 40 := hI.1 86 16
    refine qr_retI rfl rfl (by decide) (by decide) ?_
    exact ⟨rfl, (σ 86 16), rfl, by omega⟩
  · skip
    refine qr_tabIn 63 rfl (by omega) (by omega) (by rw [h1]; rfl) rfl ?_
    refine qr_aload_n 64 rfl rfl rfl ?_
    refine qr_get 67 rfl rfl rfl (by decide) rfl ?_
    have hs6 : 0 ≤ σ 86 24 ∧ σ 86 24 ≤ 60 := hI.1 86 24
    refine qr_retI rfl rfl (by decide) (by decide) ?_
    exact ⟨rfl, (σ 86 24), rfl, by omega⟩
  · skip
    refine qr_tabIn 68 rfl (by omega) (by omega) (by rw [h1]; rfl) rfl ?_
    refine qr_aload_n 69 rfl rfl rfl ?_
    refine qr_get 72 rfl rfl rfl (by decide) rfl ?_
    have hs7 : 0 ≤ σ 86 32 ∧ σ 86 32 ≤ 120 := hI.1 86 32
    refine qr_retI rfl rfl (by decide) (by decide) ?_
    exact ⟨rfl, (σ 86 32), rfl, by omega⟩
  · skip
    refine qr_tabIn 73 rfl (by omega) (by omega) (by rw [h1]; rfl) rfl ?_
    refine qr_aload_n 74 rfl rfl rfl ?_
    refine qr_get 77 rfl rfl rfl (by decide) rfl ?_
    have hs8 : 0 ≤ σ 86 5 ∧ σ 86 5 ≤ 40 := hI.1 86 5
    refine qr_retI rfl rfl (by decide) (by decide) ?_
    exact ⟨rfl, (σ 86 5), rfl, by omega⟩
  · skip
    refine qr_tabIn 78 rfl (by omega) (by omega) (by rw [h1]; rfl) rfl ?_
    refine qr_aload_n 79 rfl rfl rfl ?_
    refine qr_get 82 rfl rfl rfl (by decide) rfl ?_
    have hs9 : (-9223372036854775808) ≤ σ 86 10 ∧ σ 86 10 ≤ 9223372036854775807 := hI.1 86 10
    refine qr_callN 85 rfl rfl rfl (sf_253 (d := d + 0) hI (by omega)) ?_
    rintro _ _ ⟨rfl, v10, rfl, hv10⟩
    show qr_W (qe L xs vb) (d + 1) qx_e271 _ (85, _, [.int (qz v10)], qw σ α κ ρ, 0, 0)
    refine qr_retI rfl rfl (by decide) (by decide) ?_
    exact ⟨rfl, v10, rfl, by omega⟩
  · skip
    refine qr_tabIn 86 rfl (by omega) (by omega) (by rw [h1]; rfl) rfl ?_
    refine qr_aload_n 87 rfl rfl rfl ?_
    refine qr_get 90 rfl rfl rfl (by decide) rfl ?_
    have hs11 : (-2147483648) ≤ σ 86 56 ∧ σ 86 56 ≤ 2147483647 := hI.1 86 56
    refine qr_retI rfl rfl (by decide) (by decide) ?_
    exact ⟨rfl, (σ 86 56), rfl, by omega⟩
  · skip
    refine qr_tabOut 91 rfl (by omega) (by omega) rfl ?_
    refine qr_iconst 92 rfl rfl ?_
    refine qr_retI rfl rfl (by decide) (by decide) ?_
    exact ⟨rfl, (-1), rfl, by omega⟩

set_option maxHeartbeats 4000000 in
set_option maxRecDepth 20000 in
/-- OneRoofModel.lists -/
theorem sf_234_86 {L : Nat} {xs : Nat → Int} {vb : Bool} {d : Nat} {σ α : Nat → Nat → Int} {κ : Nat → Option Nat} {ρ : Nat} {x1 : Int} {x2 : Int} (hI : qI σ α κ ρ) (r1 : (-9223372036854775808) ≤ x1 ∧ x1 ≤ 9223372036854775807) (r2 : 0 ≤ x2 ∧ x2 ≤ 12) : qm_T (qe L xs vb) (d + 2) 234 [.ref 86, .long (ql x1), .int (qz x2)] (qw σ α κ ρ) (fun r w' => ∃ σ' α', w' = qw σ' α' κ ρ ∧ qI σ' α' κ ρ ∧ qFr [(86, 43)] [110] σ α σ' α' ∧ ∃ v : Int, r = some (.int (qz v)) ∧ (0 ≤ v ∧ v ≤ 1) ∧ (v = 0 ∨ (v = 1 ∧ 1 ≤ σ' 86 43 ∧ σ' 86 43 ≤ x2))) := by
  refine qr_start (d := d + 1) qv_e234 (Nat.le_of_ble_eq_true rfl) ?_
  show qr_W (qe L xs vb) (d + 1) qx_e234 _ (0, [(0, .ref 86), (1, .long (ql x1)), (3, .int (qz x2))], [], _, 0, 0)
  have hF0 := qFr_rf [(86, 43)] [110] σ α
  refine qr_aload_n 1 rfl rfl rfl ?_
  refine qr_iconst 2 rfl rfl ?_
  refine qr_put 5 rfl (by decide) rfl (Nat.le_of_ble_eq_true rfl) (Nat.le_of_ble_eq_true rfl) (Or.inl rfl) (qr_fitI rfl _) rfl ?_
  refine qy_wS (qw_s σ 86 43 0) rfl (fun σ1 e2 => ?_)
  have hI3 : qI σ1 α κ ρ := by rw [e2]; exact qI_s hI 86 43 rfl (show 0 ≤ 0 ∧ 0 ≤ 32 by omega)
  have hF4 : qFr [(86, 43)] [110] σ α σ1 α := by rw [e2]; exact qFr_s hF0 86 43 _ (by decide)
  refine qr_iconst 6 rfl rfl ?_
  refine qr_istore _ 8 rfl (by decide) rfl rfl ?_
  have hL1261 : ∀ (n : Nat) (ls : qm_L) (u1254 : Int) (σ1255 α1256 : Nat → Nat → Int), 32 - u1254 < (n : Int) → qm_get ls 0 = some (.ref 86) → qm_get ls 1 = some (.long (ql x1)) → qm_get ls 3 = some (.int (qz x2)) → qm_get ls 4 = some (.int (qz u1254)) → (0 ≤ u1254 ∧ u1254 ≤ 32) → qI σ1255 α1256 κ ρ → qFr [(86, 43)] [110] σ α σ1255 α1256 → σ1255 86 43 ≤ u1254 → qr_W (qe L xs vb) (d + 1) qx_e234 (fun r w' => ∃ σ' α', w' = qw σ' α' κ ρ ∧ qI σ' α' κ ρ ∧ qFr [(86, 43)] [110] σ α σ' α' ∧ ∃ v : Int, r = some (.int (qz v)) ∧ (0 ≤ v ∧ v ≤ 1) ∧ (v = 0 ∨ (v = 1 ∧ 1 ≤ σ' 86 43 ∧ σ' 86 43 ≤ x2))) (8, ls, [], qw σ1255 α1256 κ ρ, 0, 0) := by
    intro n
    induction n with
    | zero => intro ls u1254 σ1255 α1256 hm g1250 g1251 g1252 g1253 hf1259 hI1257 hF1258 hx1260; exact False.elim (by omega)
    | succ n ih1262 =>
      intro ls u1254 σ1255 α1256 hm g1250 g1251 g1252 g1253 hf1259 hI1257 hF1258 hx1260
      refine qr_iload 10 rfl g1253 rfl ?_
      refine qr_aload_n 11 rfl g1250 rfl ?_
      refine qr_get 14 rfl rfl rfl (by decide) rfl ?_
      have hs1263 : 0 ≤ σ1255 86 6 ∧ σ1255 86 6 ≤ 32 := hI1257.1 86 6
      have hJ1306 : ∀ (ls : qm_L) (σ1300 α1301 : Nat → Nat → Int), qm_get ls 0 = some (.ref 86) → qm_get ls 1 = some (.long (ql x1)) → qm_get ls 3 = some (.int (qz x2)) → qI σ1300 α1301 κ ρ → qFr [(86, 43)] [110] σ α σ1300 α1301 → σ1300 86 6 = (σ1255 86 6) → σ1300 86 43 ≤ u1254 + 1 → qr_W (qe L xs vb) (d + 1) qx_e234 (fun r w' => ∃ σ' α', w' = qw σ' α' κ ρ ∧ qI σ' α' κ ρ ∧ qFr [(86, 43)] [110] σ α σ' α' ∧ ∃ v : Int, r = some (.int (qz v)) ∧ (0 ≤ v ∧ v ≤ 1) ∧ (v = 0 ∨ (v = 1 ∧ 1 ≤ σ' 86 43 ∧ σ' 86 43 ≤ x2))) (70, ls, [], qw σ1300 α1301 κ ρ, 0, 0) := by
        intro ls σ1300 α1301 g1297 g1298 g1299 hI1302 hF1303 hk1304 hx1305
        refine qr_aload_n 71 rfl g1297 rfl ?_
        refine qr_lload_n 72 rfl g1298 rfl ?_
        refine qr_callN 75 rfl rfl rfl (sf_225_86 (d := d + 0) hI1302 (by omega)) ?_
        rintro _ _ ⟨rfl, v1307, rfl, hv1307⟩
        show qr_W (qe L xs vb) (d + 1) qx_e234 _ (75, _, [.int (qz v1307)], qw σ1300 α1301 κ ρ, 0, 0)
        refine qr_if_eq 96 78 rfl rfl rfl (by omega) (fun h1308 => ?_) (fun h1308 => ?_)
        · skip
          refine qr_iconst 97 rfl rfl ?_
          refine qr_retZ rfl rfl (by omega) (by decide) (by decide) ?_
          exact ⟨_, _, rfl, hI1302, hF1303, 0, rfl, by omega, by omega⟩
        · skip
          refine qr_aload_n 79 rfl g1297 rfl ?_
          refine qr_get 82 rfl rfl rfl (by decide) rfl ?_
          have hs1309 : 0 ≤ σ1300 86 43 ∧ σ1300 86 43 ≤ 32 := hI1302.1 86 43
          refine qr_i2l 83 rfl (by omega) rfl ?_
          refine qr_lconst 84 rfl rfl ?_
          refine qy_vl 1 rfl ?_
          refine qr_iload_n 85 rfl g1299 rfl ?_
          refine qr_i2l 86 rfl (by omega) rfl ?_
          refine qr_callN 89 rfl rfl rfl (sf_176 (d := d + 0) hI1302 (by omega) (by omega) (by omega)) ?_
          rintro _ _ ⟨rfl, v1310, rfl, hv1310, hp1311⟩
          show qr_W (qe L xs vb) (d + 1) qx_e234 _ (89, _, [.int (qz v1310)], qw σ1300 α1301 κ ρ, 0, 0)
          refine qr_if_eq 96 92 rfl rfl rfl (by omega) (fun h1312 => ?_) (fun h1312 => ?_)
          · skip
            refine qr_iconst 97 rfl rfl ?_
            refine qr_retZ rfl rfl (by omega) (by decide) (by decide) ?_
            have hw1313 : σ1300 86 43 = (σ1300 86 43) := rfl
            exact ⟨_, _, rfl, hI1302, hF1303, 0, rfl, by omega, by omega⟩
          · skip
            refine qr_iconst 93 rfl rfl ?_
            refine qr_goto 97 rfl rfl ?_
            refine qr_retZ rfl rfl (by omega) (by decide) (by decide) ?_
            have hw1314 : σ1300 86 43 = (σ1300 86 43) := rfl
            exact ⟨_, _, rfl, hI1302, hF1303, 1, rfl, by omega, by omega⟩
      refine qr_icmp_ge 70 17 rfl rfl rfl (by omega) (by omega) (fun h1315 => ?_) (fun h1315 => ?_)
      · skip
        exact hJ1306 _ σ1255 α1256 g1250 g1251 g1252 hI1257 hF1258 (rfl) (by omega)
      · skip
        refine qr_aload_n 18 rfl g1250 rfl ?_
        refine qr_lload_n 19 rfl g1251 rfl ?_
        refine qr_callN 22 rfl rfl rfl (sf_225_86 (d := d + 0) hI1257 (by omega)) ?_
        rintro _ _ ⟨rfl, v1316, rfl, hv1316⟩
        show qr_W (qe L xs vb) (d + 1) qx_e234 _ (22, _, [.int (qz v1316)], qw σ1255 α1256 κ ρ, 0, 0)
        refine qr_if_eq 70 25 rfl rfl rfl (by omega) (fun h1317 => ?_) (fun h1317 => ?_)
        · skip
          exact hJ1306 _ σ1255 α1256 g1250 g1251 g1252 hI1257 hF1258 (rfl) (by omega)
        · skip
          refine qr_lload_n 26 rfl g1251 rfl ?_
          refine qr_aload_n 27 rfl g1250 rfl ?_
          refine qr_get 30 rfl rfl rfl (by decide) rfl ?_
          have hs1318 : (-9223372036854775808) ≤ σ1255 86 10 ∧ σ1255 86 10 ≤ 9223372036854775807 := hI1257.1 86 10
          refine qr_ldc2 (-1) 33 rfl (by decide) rfl ?_
          refine qr_lxor 34 rfl rfl ?_
          refine qy_canl (fun v1319 hv1319 => ?_)
          refine qr_land 35 rfl rfl ?_
          refine qy_canl (fun v1320 hv1320 => ?_)
          refine qr_iload 37 rfl g1253 rfl ?_
          refine qr_callN 40 rfl rfl rfl (sf_226 (d := d + 0) hI1257 (by omega) (by omega)) ?_
          rintro _ _ ⟨rfl, v1321, rfl, hv1321⟩
          show qr_W (qe L xs vb) (d + 1) qx_e234 _ (40, _, [.int (qz v1321)], qw σ1255 α1256 κ ρ, 0, 0)
          have hJ1342 : ∀ (ls : qm_L) (σ1335 α1336 : Nat → Nat → Int), qm_get ls 0 = some (.ref 86) → qm_get ls 1 = some (.long (ql x1)) → qm_get ls 3 = some (.int (qz x2)) → qm_get ls 4 = some (.int (qz u1254)) → qI σ1335 α1336 κ ρ → qFr [(86, 43)] [110] σ α σ1335 α1336 → σ1335 86 6 = (σ1255 86 6) → σ1335 86 10 = (σ1255 86 10) → σ1335 86 43 ≤ u1254 + 1 → qr_W (qe L xs vb) (d + 1) qx_e234 (fun r w' => ∃ σ' α', w' = qw σ' α' κ ρ ∧ qI σ' α' κ ρ ∧ qFr [(86, 43)] [110] σ α σ' α' ∧ ∃ v : Int, r = some (.int (qz v)) ∧ (0 ≤ v ∧ v ≤ 1) ∧ (v = 0 ∨ (v = 1 ∧ 1 ≤ σ' 86 43 ∧ σ' 86 43 ≤ x2))) (64, ls, [], qw σ1335 α1336 κ ρ, 0, 0) := by
            intro ls σ1335 α1336 g1331 g1332 g1333 g1334 hI1337 hF1338 hk1339 hk1340 hx1341
            refine qr_iinc _ 67 rfl g1334 (by decide) rfl rfl ?_
            refine qr_goto 8 rfl rfl ?_
            exact ih1262 _ (u1254 + 1) σ1335 α1336 (by omega) (qm_gk g1331 (by decide) (Or.inl (by decide))) (qm_gk g1332 (by decide) (Or.inl (by decide))) (qm_gk g1333 (by decide) (Or.inr rfl)) (qm_ge _ _ _) (by omega) hI1337 hF1338 (by omega)
          refine qr_if_eq 64 43 rfl rfl rfl (by omega) (fun h1343 => ?_) (fun h1343 => ?_)
          · skip
            exact hJ1342 _ σ1255 α1256 g1250 g1251 g1252 g1253 hI1257 hF1258 (rfl) (rfl) (by omega)
          · skip
            refine qr_aload_n 44 rfl g1250 rfl ?_
            refine qr_get 47 rfl rfl rfl (by decide) rfl ?_
            refine qr_aload_n 48 rfl g1250 rfl ?_
            refine qr_get 51 rfl rfl rfl (by decide) rfl ?_
            have hs1344 : 0 ≤ σ1255 86 43 ∧ σ1255 86 43 ≤ 32 := hI1257.1 86 43
            refine qr_iload 53 rfl g1253 rfl ?_
            refine qr_iastore 54 rfl (by decide) rfl (by omega) (by decide) rfl ?_
            refine qy_wA (qw_r α1256 110 (qzu (α1256 110) ((σ1255 86 43) : Int).toNat u1254)) rfl (fun α1345 e1346 => ?_)
            have hI1347 : qI σ1255 α1345 κ ρ := by rw [e1346]; exact qI_r hI1257 110 _ rfl (show 0 ≤ u1254 ∧ u1254 ≤ 31 by omega)
            have hF1348 : qFr [(86, 43)] [110] σ α σ1255 α1345 := by rw [e1346]; exact qFr_r hF1258 110 _ (by decide)
            refine qr_aload_n 55 rfl g1250 rfl ?_
            refine qr_dup 56 rfl rfl rfl ?_
            refine qr_get 59 rfl rfl rfl (by decide) rfl ?_
            refine qr_iconst 60 rfl rfl ?_
            refine qr_iadd 61 rfl rfl ?_
            refine qr_put 64 rfl (by decide) rfl (Nat.le_of_ble_eq_true rfl) (Nat.le_of_ble_eq_true rfl) (Or.inl rfl) (qr_fitI rfl _) rfl ?_
            refine qy_wS (qw_s σ1255 86 43 ((σ1255 86 43) + 1)) rfl (fun σ1349 e1350 => ?_)
            have hI1351 : qI σ1349 α1345 κ ρ := by rw [e1350]; exact qI_s hI1347 86 43 rfl (show 0 ≤ ((σ1255 86 43) + 1) ∧ ((σ1255 86 43) + 1) ≤ 32 by omega)
            have hF1352 : qFr [(86, 43)] [110] σ α σ1349 α1345 := by rw [e1350]; exact qFr_s hF1348 86 43 _ (by decide)
            exact hJ1342 _ σ1349 α1345 g1250 g1251 g1252 g1253 hI1351 hF1352 ((congrFun (congrFun e1350 86) 6).trans rfl) ((congrFun (congrFun e1350 86) 10).trans rfl) (by have hw : σ1349 86 43 = ((σ1255 86 43) + 1) := (congrFun (congrFun e1350 86) 43).trans rfl; omega)
  exact hL1261 ((32 - 0 + 1 : Int)).toNat _ 0 σ1 α (by omega) rfl rfl rfl rfl (by omega) hI3 hF4 (by have hw : σ1 86 43 = 0 := (congrFun (congrFun e2 86) 43).trans rfl; omega)

