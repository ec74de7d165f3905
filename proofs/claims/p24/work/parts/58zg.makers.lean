section
/-! people from a row, whatever is kept of them: one comes by st -/
noncomputable def qps {T : Type} (st : T → Int → Int → Int → Int → T) (f : Nat → Int) (b len i : Int) : Nat → Int → Int → T → Int × Int × T
  | 0, c, s, t => (c, s, t)
  | n + 1, c, s, t => @ite _ (qpc f b len i c s) (Classical.propDecidable _) (qps st f b len i n (c + 1) (s + 1) (st t s (qpa f b (i + 3 * c)) (qpa f b (i + 3 * c + 1)) (qpa f b (i + 3 * c + 2)))) (c, s, t)
theorem qps_0 {T : Type} {st : T → Int → Int → Int → Int → T} {f : Nat → Int} {b len i c s : Int} {t : T} {n : Nat} (hn : n = 0) : qps st f b len i n c s t = (c, s, t) := by
  subst hn
  rfl
theorem qps_stop {T : Type} {st : T → Int → Int → Int → Int → T} {f : Nat → Int} {b len i c s : Int} {t : T} {n : Nat} (h : ¬ qpc f b len i c s) : qps st f b len i n c s t = (c, s, t) := by
  cases n with
  | zero => rfl
  | succ n => exact if_neg h
theorem qps_go {T : Type} {st : T → Int → Int → Int → Int → T} {f : Nat → Int} {b len i c s : Int} {t : T} {n m : Nat} (h : qpc f b len i c s) (hn : n = m + 1) : qps st f b len i n c s t = qps st f b len i m (c + 1) (s + 1) (st t s (qpa f b (i + 3 * c)) (qpa f b (i + 3 * c + 1)) (qpa f b (i + 3 * c + 2))) := by
  subst hn
  exact if_pos h
theorem qps_eq {T : Type} {st : T → Int → Int → Int → Int → T} {f g : Nat → Int} {b len i : Int} (h : ∀ j : Int, 0 ≤ j → j < len → qpa f b j = qpa g b j) : ∀ (n : Nat) (c s : Int) (t : T), qps st f b len i n c s t = qps st g b len i n c s t := by
  intro n
  induction n with
  | zero => intro c s t; rfl
  | succ n ih =>
    intro c s t
    have key : 0 ≤ i + 3 * c ∧ i + 3 * c + 2 < len → qpa f b (i + 3 * c) = qpa g b (i + 3 * c) ∧ qpa f b (i + 3 * c + 1) = qpa g b (i + 3 * c + 1) ∧ qpa f b (i + 3 * c + 2) = qpa g b (i + 3 * c + 2) := fun hh => ⟨h _ (by omega) (by omega), h _ (by omega) (by omega), h _ (by omega) (by omega)⟩
    by_cases hc : qpc f b len i c s
    · obtain ⟨k1, k2, k3⟩ := key ⟨hc.1, hc.2.1⟩
      have hc2 : qpc g b len i c s := ⟨hc.1, hc.2.1, hc.2.2.1, by rw [← k1, ← k2, ← k3]; exact hc.2.2.2⟩
      rw [qps_go hc rfl, qps_go hc2 rfl, ih, k1, k2, k3]
    · have hc2 : ¬ qpc g b len i c s := fun h2 => by
        obtain ⟨k1, k2, k3⟩ := key ⟨h2.1, h2.2.1⟩
        exact hc ⟨h2.1, h2.2.1, h2.2.2.1, by rw [k1, k2, k3]; exact h2.2.2.2⟩
      rw [qps_stop hc, qps_stop hc2]
/-- both sides alike, if one that comes keeps them so -/
theorem qps_rel {T T' : Type} {st : T → Int → Int → Int → Int → T} {st' : T' → Int → Int → Int → Int → T'} {R : Int → T → T' → Prop} {f : Nat → Int} {b len i : Int} (hs : ∀ (s : Int) (t : T) (t' : T') (l w k : Int), 0 ≤ s → s < 32 → qfit s l w k → R s t t' → R (s + 1) (st t s l w k) (st' t' s l w k)) : ∀ (n : Nat) (c s : Int) (t : T) (t' : T'), 0 ≤ s → R s t t' → (qps st f b len i n c s t).1 = (qps st' f b len i n c s t').1 ∧ (qps st f b len i n c s t).2.1 = (qps st' f b len i n c s t').2.1 ∧ R (qps st f b len i n c s t).2.1 (qps st f b len i n c s t).2.2 (qps st' f b len i n c s t').2.2 := by
  intro n
  induction n with
  | zero => intro c s t t' _ h; exact ⟨rfl, rfl, h⟩
  | succ n ih =>
    intro c s t t' h0 h
    by_cases hc : qpc f b len i c s
    · rw [qps_go hc rfl, qps_go hc rfl]
      exact ih _ _ _ _ (by omega) (hs s t t' _ _ _ h0 hc.2.2.1 hc.2.2.2 h)
    · rw [qps_stop hc, qps_stop hc]
      exact ⟨rfl, rfl, h⟩
abbrev qTC := (Nat → Int) × (Nat → Int) × (Nat → Int) × (Nat → Int)
abbrev qTM := (Nat → Int) × (Nat → Int) × (Nat → Int)
noncomputable def qstc (t : qTC) (s l w k : Int) : qTC := (qzu t.1 s.toNat l, qzu t.2.1 s.toNat w, qzu t.2.2.1 s.toNat k, qzu t.2.2.2 s.toNat (ql_or (ql_shl 1 s) (if l < 0 then 0 else t.2.2.2 l.toNat)))
def qstm (t : qTM) (s l w k : Int) : qTM := (qzu t.1 s.toNat l, qzu t.2.1 s.toNat w, qzu t.2.2 s.toNat k)
/-- the two words of those covered -/
theorem qcv_lo {x a v j : Int} (hj : 0 ≤ j ∧ j < 16) (h1 : ql a = ql (ql_and x 65535)) (h2 : qz v = qz a) : qbi v j = qbit x j := by
  have e : ∀ t : Int, qlz t = (qz t).toBitVec.toNat := fun _ => rfl
  have e1 : qbi v j = qbi a j := by
    unfold qbi
    rw [e, e, h2]
  have e2 := qbit_qbi a (i := j) (by omega)
  have e3 : qbit a j = qbit (ql_and x 65535) j := by
    unfold qbit qlu
    rw [h1]
  have e4 := qband_c x 65535 j
  have e5 : qbit 65535 j = 1 := by
    have k : ∀ n : Fin 16, qbit 65535 ((n : Nat) : Int) = 1 := by decide
    have h := k ⟨j.toNat, by omega⟩
    have e6 : ((j.toNat : Nat) : Int) = j := by omega
    have h2 : qbit 65535 ((j.toNat : Nat) : Int) = 1 := h
    rw [e6] at h2
    exact h2
  have r1 := qbit_r x j
  omega
theorem qcv_hi {x a v j : Int} (hx : 0 ≤ x ∧ x ≤ 9223372036854775807) (hj : 0 ≤ j ∧ j < 16) (h1 : ql a = ql (ql_shr x 16)) (h2 : qz v = qz a) : qbi v j = qbit x (16 + j) := by
  have e : ∀ t : Int, qlz t = (qz t).toBitVec.toNat := fun _ => rfl
  have e1 : qbi v j = qbi a j := by
    unfold qbi
    rw [e, e, h2]
  have e2 := qbit_qbi a (i := j) (by omega)
  have e3 : qlu a = qlu x / 2 ^ (16 : Int).toNat := qlu_shr0 hx (by omega) h1
  have e4 : qbit a j = qbit x (16 + j) := by
    unfold qbit
    rw [e3, Nat.div_div_eq_div_mul, ← Nat.pow_add, show (16 : Int).toNat + j.toNat = (16 + j).toNat by omega]
  omega

set_option maxHeartbeats 4000000 in
set_option maxRecDepth 20000 in
/-- OneRoof$Folk.come -/
theorem sf_42_17z {L : Nat} {xs : Nat → Int} {vb : Bool} {d : Nat} {σ α : Nat → Nat → Int} {κ : Nat → Option Nat} {ρ : Nat} {x1 : Int} {x2 : Int} {x3 : Int} (hI : qI σ α κ ρ) (r1 : (-1) ≤ x1 ∧ x1 ≤ 31) (r2 : 0 ≤ x2 ∧ x2 ≤ 99) (r3 : 0 ≤ x3 ∧ x3 ≤ 1) (p0 : σ 17 6 ≤ 31) : qm_T (qe L xs vb) (d + 1) 42 [.ref 17, .int (qz x1), .int (qz x2), .int (qz x3)] (qw σ α κ ρ) (fun r w' => ∃ σ' α', w' = qw σ' α' κ ρ ∧ qI σ' α' κ ρ ∧ qFr [(17, 6)] [18, 19, 20, 22] σ α σ' α' ∧ σ' 17 6 = σ 17 6 + 1 ∧ ∃ v : Int, r = some (.int (qz v)) ∧ (0 ≤ v ∧ v ≤ 31) ∧ v = σ 17 6 ∧ (α' 18, α' 19, α' 20, α' 22) = qstc (α 18, α 19, α 20, α 22) (σ 17 6) x1 x2 x3) := by
  refine qr_start (d := d + 0) qv_e42 (Nat.le_of_ble_eq_true rfl) ?_
  show qr_W (qe L xs vb) (d + 0) qx_e42 _ (0, [(0, .ref 17), (1, .int (qz x1)), (2, .int (qz x2)), (3, .int (qz x3))], [], _, 0, 0)
  have hF0 := qFr_rf [(17, 6)] [18, 19, 20, 22] σ α
  have hz17_6 : 0 ≤ σ 17 6 ∧ σ 17 6 ≤ 32 := hI.1 17 6
  refine qr_aload_n 1 rfl rfl rfl ?_
  refine qr_get 4 rfl rfl rfl (by decide) rfl ?_
  refine qr_aload_n 5 rfl rfl rfl ?_
  refine qr_get 8 rfl rfl rfl (by decide) rfl ?_
  refine qr_iload_n 9 rfl rfl rfl ?_
  refine qr_iastore 10 rfl (by decide) rfl (by omega) (by decide) rfl ?_
  refine qy_wA (qw_r α 18 (qzu (α 18) ((σ 17 6) : Int).toNat x1)) rfl (fun α1 e2 => ?_)
  have hI3 : qI σ α1 κ ρ := by rw [e2]; exact qI_r hI 18 _ rfl (show (-1) ≤ x1 ∧ x1 ≤ 31 by omega)
  have hF4 : qFr [(17, 6)] [18, 19, 20, 22] σ α σ α1 := by rw [e2]; exact qFr_r hF0 18 _ (by decide)
  refine qr_aload_n 11 rfl rfl rfl ?_
  refine qr_get 14 rfl rfl rfl (by decide) rfl ?_
  refine qr_aload_n 15 rfl rfl rfl ?_
  refine qr_get 18 rfl rfl rfl (by decide) rfl ?_
  refine qr_iload_n 19 rfl rfl rfl ?_
  refine qr_iastore 20 rfl (by decide) rfl (by omega) (by decide) rfl ?_
  refine qy_wA (qw_r α1 19 (qzu (α1 19) ((σ 17 6) : Int).toNat x2)) rfl (fun α5 e6 => ?_)
  have hI7 : qI σ α5 κ ρ := by rw [e6]; exact qI_r hI3 19 _ rfl (show 0 ≤ x2 ∧ x2 ≤ 99 by omega)
  have hF8 : qFr [(17, 6)] [18, 19, 20, 22] σ α σ α5 := by rw [e6]; exact qFr_r hF4 19 _ (by decide)
  refine qr_aload_n 21 rfl rfl rfl ?_
  refine qr_get 24 rfl rfl rfl (by decide) rfl ?_
  refine qr_aload_n 25 rfl rfl rfl ?_
  refine qr_get 28 rfl rfl rfl (by decide) rfl ?_
  refine qr_iload_n 29 rfl rfl rfl ?_
  refine qr_iastore 30 rfl (by decide) rfl (by omega) (by decide) rfl ?_
  refine qy_wA (qw_r α5 20 (qzu (α5 20) ((σ 17 6) : Int).toNat x3)) rfl (fun α9 e10 => ?_)
  have hI11 : qI σ α9 κ ρ := by rw [e10]; exact qI_r hI7 20 _ rfl (show (-2147483648) ≤ x3 ∧ x3 ≤ 2147483647 by omega)
  have hF12 : qFr [(17, 6)] [18, 19, 20, 22] σ α σ α9 := by rw [e10]; exact qFr_r hF8 20 _ (by decide)
  refine qr_aload_n 31 rfl rfl rfl ?_
  refine qr_get 34 rfl rfl rfl (by decide) rfl ?_
  refine qr_aload_n 35 rfl rfl rfl ?_
  refine qr_get 38 rfl rfl rfl (by decide) rfl ?_
  refine qr_lconst 39 rfl rfl ?_
  refine qy_vl 1 rfl ?_
  refine qr_aload_n 40 rfl rfl rfl ?_
  refine qr_get 43 rfl rfl rfl (by decide) rfl ?_
  refine qr_lshl 44 rfl rfl ?_
  refine qy_canlE (fun v13 hv13 hev13 => ?_)
  refine qr_iload_n 45 rfl rfl rfl ?_
  refine qr_if_ge 52 48 rfl rfl rfl (qrg r1 (by decide) (by decide)) (fun h14 => ?_) (fun h14 => ?_)
  · skip
    refine qr_aload_n 53 rfl rfl rfl ?_
    refine qr_get 56 rfl rfl rfl (by decide) rfl ?_
    refine qr_iload_n 57 rfl rfl rfl ?_
    refine qr_laload 58 rfl (by decide) rfl (by omega) (by decide) rfl ?_
    refine qr_topL (fun v15 hv15 => ?_)
    have hs16 : (-9223372036854775808) ≤ v15 ∧ v15 ≤ 9223372036854775807 := by rw [hv15]; exact hI11.2.1 22 _ (show _ < 32 from qrgt r1 (by decide) (by decide))
    have hrv15 : v15 = (α 22) (x1 : Int).toNat := hv15.trans (congrFun ((congrFun e10 22).trans ((qw_r_ne (by decide)).trans ((congrFun e6 22).trans ((qw_r_ne (by decide)).trans ((congrFun e2 22).trans ((qw_r_ne (by decide)).trans rfl)))))) _)
    refine qr_lor 59 rfl rfl ?_
    refine qy_canlE (fun v17 hv17 hev17 => ?_)
    refine qr_lastore 60 rfl (by decide) rfl (by omega) (by decide) rfl ?_
    refine qy_wA (qw_r α9 22 (qzu (α9 22) ((σ 17 6) : Int).toNat v17)) rfl (fun α18 e19 => ?_)
    have hI20 : qI σ α18 κ ρ := by rw [e19]; exact qI_r hI11 22 _ rfl (show (-9223372036854775808) ≤ v17 ∧ v17 ≤ 9223372036854775807 by omega)
    have hF21 : qFr [(17, 6)] [18, 19, 20, 22] σ α σ α18 := by rw [e19]; exact qFr_r hF12 22 _ (by decide)
    refine qr_aload_n 61 rfl rfl rfl ?_
    refine qr_dup 62 rfl rfl rfl ?_
    refine qr_get 65 rfl rfl rfl (by decide) rfl ?_
    refine qr_dup_x1 66 rfl rfl rfl rfl ?_
    refine qr_iconst 67 rfl rfl ?_
    refine qr_iadd 68 rfl rfl ?_
    refine qr_put 71 rfl (by decide) rfl (Nat.le_of_ble_eq_true rfl) (Nat.le_of_ble_eq_true rfl) (Or.inl rfl) (qr_fitI rfl _) rfl ?_
    refine qy_wS (qw_s σ 17 6 ((σ 17 6) + 1)) rfl (fun σ22 e23 => ?_)
    have hI24 : qI σ22 α18 κ ρ := by rw [e23]; exact qI_s hI20 17 6 rfl (show 0 ≤ ((σ 17 6) + 1) ∧ ((σ 17 6) + 1) ≤ 32 by omega)
    have hF25 : qFr [(17, 6)] [18, 19, 20, 22] σ α σ22 α18 := by rw [e23]; exact qFr_s hF21 17 6 _ (by decide)
    refine qr_retI rfl rfl (by decide) (by decide) ?_
    exact ⟨_, _, rfl, hI24, hF25, (by have hw : σ22 17 6 = ((σ 17 6) + 1) := (congrFun (congrFun e23 17) 6).trans rfl; omega), (σ 17 6), rfl, (by omega), by omega, (by have hval : v17 = ql_or (ql_shl 1 (σ 17 6)) (if x1 < 0 then 0 else α 22 (x1 : Int).toNat) := (by rw [ql_val hev17 (by omega) (ql_or_r _ _), ql_val hev13 (by omega) (ql_shl_r _ _), if_neg (by omega), hrv15]); rw [show α18 18 = (qzu (α 18) ((σ 17 6) : Int).toNat x1) from ((congrFun e19 18).trans ((qw_r_ne (by decide)).trans ((congrFun e10 18).trans ((qw_r_ne (by decide)).trans ((congrFun e6 18).trans ((qw_r_ne (by decide)).trans ((congrFun e2 18).trans (qw_r_eq.trans (congrArg (fun f => qzu f ((σ 17 6) : Int).toNat x1) rfl))))))))), show α18 19 = (qzu (α 19) ((σ 17 6) : Int).toNat x2) from ((congrFun e19 19).trans ((qw_r_ne (by decide)).trans ((congrFun e10 19).trans ((qw_r_ne (by decide)).trans ((congrFun e6 19).trans (qw_r_eq.trans (congrArg (fun f => qzu f ((σ 17 6) : Int).toNat x2) ((congrFun e2 19).trans ((qw_r_ne (by decide)).trans rfl))))))))), show α18 20 = (qzu (α 20) ((σ 17 6) : Int).toNat x3) from ((congrFun e19 20).trans ((qw_r_ne (by decide)).trans ((congrFun e10 20).trans (qw_r_eq.trans (congrArg (fun f => qzu f ((σ 17 6) : Int).toNat x3) ((congrFun e6 20).trans ((qw_r_ne (by decide)).trans ((congrFun e2 20).trans ((qw_r_ne (by decide)).trans rfl))))))))), show α18 22 = (qzu (α 22) ((σ 17 6) : Int).toNat v17) from ((congrFun e19 22).trans (qw_r_eq.trans (congrArg (fun f => qzu f ((σ 17 6) : Int).toNat v17) ((congrFun e10 22).trans ((qw_r_ne (by decide)).trans ((congrFun e6 22).trans ((qw_r_ne (by decide)).trans ((congrFun e2 22).trans ((qw_r_ne (by decide)).trans rfl))))))))), hval]; rfl)⟩
  · skip
    refine qr_lconst 49 rfl rfl ?_
    refine qy_vl 0 rfl ?_
    refine qr_goto 58 rfl rfl ?_
    refine qr_lor 59 rfl rfl ?_
    refine qy_canlE (fun v26 hv26 hev26 => ?_)
    refine qr_lastore 60 rfl (by decide) rfl (by omega) (by decide) rfl ?_
    refine qy_wA (qw_r α9 22 (qzu (α9 22) ((σ 17 6) : Int).toNat v26)) rfl (fun α27 e28 => ?_)
    have hI29 : qI σ α27 κ ρ := by rw [e28]; exact qI_r hI11 22 _ rfl (show (-9223372036854775808) ≤ v26 ∧ v26 ≤ 9223372036854775807 by omega)
    have hF30 : qFr [(17, 6)] [18, 19, 20, 22] σ α σ α27 := by rw [e28]; exact qFr_r hF12 22 _ (by decide)
    refine qr_aload_n 61 rfl rfl rfl ?_
    refine qr_dup 62 rfl rfl rfl ?_
    refine qr_get 65 rfl rfl rfl (by decide) rfl ?_
    refine qr_dup_x1 66 rfl rfl rfl rfl ?_
    refine qr_iconst 67 rfl rfl ?_
    refine qr_iadd 68 rfl rfl ?_
    refine qr_put 71 rfl (by decide) rfl (Nat.le_of_ble_eq_true rfl) (Nat.le_of_ble_eq_true rfl) (Or.inl rfl) (qr_fitI rfl _) rfl ?_
    refine qy_wS (qw_s σ 17 6 ((σ 17 6) + 1)) rfl (fun σ31 e32 => ?_)
    have hI33 : qI σ31 α27 κ ρ := by rw [e32]; exact qI_s hI29 17 6 rfl (show 0 ≤ ((σ 17 6) + 1) ∧ ((σ 17 6) + 1) ≤ 32 by omega)
    have hF34 : qFr [(17, 6)] [18, 19, 20, 22] σ α σ31 α27 := by rw [e32]; exact qFr_s hF30 17 6 _ (by decide)
    refine qr_retI rfl rfl (by decide) (by decide) ?_
    exact ⟨_, _, rfl, hI33, hF34, (by have hw : σ31 17 6 = ((σ 17 6) + 1) := (congrFun (congrFun e32 17) 6).trans rfl; omega), (σ 17 6), rfl, (by omega), by omega, (by have hval : v26 = ql_or (ql_shl 1 (σ 17 6)) (if x1 < 0 then 0 else α 22 (x1 : Int).toNat) := (by rw [ql_val hev26 (by omega) (ql_or_r _ _), ql_val hev13 (by omega) (ql_shl_r _ _), if_pos (by omega)]); rw [show α27 18 = (qzu (α 18) ((σ 17 6) : Int).toNat x1) from ((congrFun e28 18).trans ((qw_r_ne (by decide)).trans ((congrFun e10 18).trans ((qw_r_ne (by decide)).trans ((congrFun e6 18).trans ((qw_r_ne (by decide)).trans ((congrFun e2 18).trans (qw_r_eq.trans (congrArg (fun f => qzu f ((σ 17 6) : Int).toNat x1) rfl))))))))), show α27 19 = (qzu (α 19) ((σ 17 6) : Int).toNat x2) from ((congrFun e28 19).trans ((qw_r_ne (by decide)).trans ((congrFun e10 19).trans ((qw_r_ne (by decide)).trans ((congrFun e6 19).trans (qw_r_eq.trans (congrArg (fun f => qzu f ((σ 17 6) : Int).toNat x2) ((congrFun e2 19).trans ((qw_r_ne (by decide)).trans rfl))))))))), show α27 20 = (qzu (α 20) ((σ 17 6) : Int).toNat x3) from ((congrFun e28 20).trans ((qw_r_ne (by decide)).trans ((congrFun e10 20).trans (qw_r_eq.trans (congrArg (fun f => qzu f ((σ 17 6) : Int).toNat x3) ((congrFun e6 20).trans ((qw_r_ne (by decide)).trans ((congrFun e2 20).trans ((qw_r_ne (by decide)).trans rfl))))))))), show α27 22 = (qzu (α 22) ((σ 17 6) : Int).toNat v26) from ((congrFun e28 22).trans (qw_r_eq.trans (congrArg (fun f => qzu f ((σ 17 6) : Int).toNat v26) ((congrFun e10 22).trans ((qw_r_ne (by decide)).trans ((congrFun e6 22).trans ((qw_r_ne (by decide)).trans ((congrFun e2 22).trans ((qw_r_ne (by decide)).trans rfl))))))))), hval]; rfl)⟩

set_option maxHeartbeats 4000000 in
set_option maxRecDepth 20000 in
/-- OneRoof.person -/
theorem sf_38_16z {L : Nat} {xs : Nat → Int} {vb : Bool} {d : Nat} {σ α : Nat → Nat → Int} {κ : Nat → Option Nat} {ρ : Nat} {x1 : Int} {x2 : Int} {x3 : Int} (hI : qI σ α κ ρ) (r1 : (-2147483648) ≤ x1 ∧ x1 ≤ 2147483647) (r2 : (-2147483648) ≤ x2 ∧ x2 ≤ 2147483647) (r3 : (-2147483648) ≤ x3 ∧ x3 ≤ 2147483647) : qm_T (qe L xs vb) (d + 3) 38 [.ref 16, .int (qz x1), .int (qz x2), .int (qz x3)] (qw σ α κ ρ) (fun r w' => ∃ σ' α', w' = qw σ' α' κ ρ ∧ qI σ' α' κ ρ ∧ qFr [(17, 6)] [18, 19, 20, 22] σ α σ' α' ∧ ∃ v : Int, r = some (.int (qz v)) ∧ ((-3) ≤ v ∧ v ≤ 31) ∧ ((v = -1 ∧ ¬ ((x1 = -1 ∨ (0 ≤ x1 ∧ x1 < σ 17 6)) ∧ 1 ≤ x2 ∧ x2 ≤ 99 ∧ (x3 = 0 ∨ x3 = 1)) ∧ σ' 17 6 = σ 17 6 ∧ (α' 18, α' 19, α' 20, α' 22) = (α 18, α 19, α 20, α 22)) ∨ (v = -3 ∧ ((x1 = -1 ∨ (0 ≤ x1 ∧ x1 < σ 17 6)) ∧ 1 ≤ x2 ∧ x2 ≤ 99 ∧ (x3 = 0 ∨ x3 = 1)) ∧ 32 ≤ σ 17 6 ∧ σ' 17 6 = σ 17 6 ∧ (α' 18, α' 19, α' 20, α' 22) = (α 18, α 19, α 20, α 22)) ∨ (v = σ 17 6 ∧ ((x1 = -1 ∨ (0 ≤ x1 ∧ x1 < σ 17 6)) ∧ 1 ≤ x2 ∧ x2 ≤ 99 ∧ (x3 = 0 ∨ x3 = 1)) ∧ σ 17 6 < 32 ∧ σ' 17 6 = σ 17 6 + 1 ∧ (α' 18, α' 19, α' 20, α' 22) = qstc (α 18, α 19, α 20, α 22) (σ 17 6) x1 x2 x3))) := by
  refine qr_start (d := d + 2) qv_e38 (Nat.le_of_ble_eq_true rfl) ?_
  show qr_W (qe L xs vb) (d + 2) qx_e38 _ (0, [(0, .ref 16), (1, .int (qz x1)), (2, .int (qz x2)), (3, .int (qz x3))], [], _, 0, 0)
  have hF0 := qFr_rf [(17, 6)] [18, 19, 20, 22] σ α
  refine qr_aload_n 1 rfl rfl rfl ?_
  refine qr_get 4 rfl rfl rfl (by decide) rfl ?_
  refine qr_iload_n 5 rfl rfl rfl ?_
  refine qr_iload_n 6 rfl rfl rfl ?_
  refine qr_iload_n 7 rfl rfl rfl ?_
  refine qr_callN 10 rfl rfl rfl (sf_39_17x (d := d + 0) hI r1 r2 r3) ?_
  have hs3 : 0 ≤ σ 17 6 ∧ σ 17 6 ≤ 32 := hI.1 17 6
  rintro _ _ ⟨rfl, v1, rfl, hv1, hp2⟩
  show qr_W (qe L xs vb) (d + 2) qx_e38 _ (10, _, [.int (qz v1)], qw σ α κ ρ, 0, 0)
  refine qr_if_ne 15 13 rfl rfl rfl (qrg hv1 (by decide) (by decide)) (fun h4 => ?_) (fun h4 => ?_)
  · skip
    refine qr_aload_n 16 rfl rfl rfl ?_
    refine qr_get 19 rfl rfl rfl (by decide) rfl ?_
    refine qr_get 22 rfl rfl rfl (by decide) rfl ?_
    have hs5 : 0 ≤ σ 17 6 ∧ σ 17 6 ≤ 32 := hI.1 17 6
    refine qr_bipush 24 rfl (by decide) rfl ?_
    refine qr_icmp_lt 30 27 rfl rfl rfl (qrg hs5 (by decide) (by decide)) (by decide) (fun h6 => ?_) (fun h6 => ?_)
    · skip
      refine qr_aload_n 31 rfl rfl rfl ?_
      refine qr_get 34 rfl rfl rfl (by decide) rfl ?_
      refine qr_iload_n 35 rfl rfl rfl ?_
      refine qr_iload_n 36 rfl rfl rfl ?_
      refine qr_iload_n 37 rfl rfl rfl ?_
      have hs7 : 0 ≤ σ 17 6 ∧ σ 17 6 ≤ 32 := hI.1 17 6
      refine qr_callN 40 rfl rfl rfl (sf_42_17z (d := d + 1) hI (by omega) (by omega) (by omega) (by omega)) ?_
      have hs12 : 0 ≤ σ 17 6 ∧ σ 17 6 ≤ 32 := hI.1 17 6
      rintro _ _ ⟨σ13, α14, rfl, hI15, hG16, hw11, v8, rfl, hv8, hp9, hx10⟩
      have hF17 : qFr [(17, 6)] [18, 19, 20, 22] σ α σ13 α14 := qFr_t hF0 hG16 (by decide) (by decide)
      have hs18 : 0 ≤ σ13 17 6 ∧ σ13 17 6 ≤ 32 := hI15.1 17 6
      show qr_W (qe L xs vb) (d + 2) qx_e38 _ (40, _, [.int (qz v8)], qw σ13 α14 κ ρ, 0, 0)
      refine qr_retI rfl rfl (by decide) (by decide) ?_
      exact ⟨_, _, rfl, hI15, hF17, v8, rfl, (qrg hv8 (by decide) (by decide)), (Or.inr (Or.inr ⟨by omega, by omega, by omega, hw11, hx10⟩))⟩
    · skip
      refine qr_bipush 29 rfl (by decide) rfl ?_
      refine qr_retI rfl rfl (by decide) (by decide) ?_
      exact ⟨_, _, rfl, hI, hF0, (-3), rfl, (by decide), (Or.inr (Or.inl ⟨rfl, by omega, by omega, rfl, rfl⟩))⟩
  · skip
    refine qr_iconst 14 rfl rfl ?_
    refine qr_retI rfl rfl (by decide) (by decide) ?_
    exact ⟨_, _, rfl, hI, hF0, (-1), rfl, (by decide), (Or.inl ⟨rfl, by omega, rfl, rfl⟩)⟩

set_option maxHeartbeats 4000000 in
set_option maxRecDepth 20000 in
/-- OneRoofModel.person -/
theorem sf_174_86z {L : Nat} {xs : Nat → Int} {vb : Bool} {d : Nat} {σ α : Nat → Nat → Int} {κ : Nat → Option Nat} {ρ : Nat} {x1 : Int} {x2 : Int} {x3 : Int} (hI : qI σ α κ ρ) (r1 : (-2147483648) ≤ x1 ∧ x1 ≤ 2147483647) (r2 : (-2147483648) ≤ x2 ∧ x2 ≤ 2147483647) (r3 : (-2147483648) ≤ x3 ∧ x3 ≤ 2147483647) : qm_T (qe L xs vb) (d + 3) 174 [.ref 86, .int (qz x1), .int (qz x2), .int (qz x3)] (qw σ α κ ρ) (fun r w' => ∃ σ' α', w' = qw σ' α' κ ρ ∧ qI σ' α' κ ρ ∧ qFr [(86, 6), (86, 15)] [87, 91, 92] σ α σ' α' ∧ ∃ v : Int, r = some (.int (qz v)) ∧ ((-3) ≤ v ∧ v ≤ 31) ∧ ((v = -1 ∧ ¬ ((x1 = -1 ∨ (0 ≤ x1 ∧ x1 < σ 86 6)) ∧ 1 ≤ x2 ∧ x2 ≤ 99 ∧ (x3 = 0 ∨ x3 = 1)) ∧ σ' 86 6 = σ 86 6 ∧ (α' 91, α' 92, α' 87) = (α 91, α 92, α 87)) ∨ (v = -3 ∧ ((x1 = -1 ∨ (0 ≤ x1 ∧ x1 < σ 86 6)) ∧ 1 ≤ x2 ∧ x2 ≤ 99 ∧ (x3 = 0 ∨ x3 = 1)) ∧ 32 ≤ σ 86 6 ∧ σ' 86 6 = σ 86 6 ∧ (α' 91, α' 92, α' 87) = (α 91, α 92, α 87)) ∨ (v = σ 86 6 ∧ ((x1 = -1 ∨ (0 ≤ x1 ∧ x1 < σ 86 6)) ∧ 1 ≤ x2 ∧ x2 ≤ 99 ∧ (x3 = 0 ∨ x3 = 1)) ∧ σ 86 6 < 32 ∧ σ' 86 6 = σ 86 6 + 1 ∧ (α' 91, α' 92, α' 87) = qstm (α 91, α 92, α 87) (σ 86 6) x1 x2 x3))) := by
  refine qr_start (d := d + 2) qv_e174 (Nat.le_of_ble_eq_true rfl) ?_
  show qr_W (qe L xs vb) (d + 2) qx_e174 _ (0, [(0, .ref 86), (1, .int (qz x1)), (2, .int (qz x2)), (3, .int (qz x3))], [], _, 0, 0)
  have hF0 := qFr_rf [(86, 6), (86, 15)] [87, 91, 92] σ α
  have hz86_6 : 0 ≤ σ 86 6 ∧ σ 86 6 ≤ 32 := hI.1 86 6
  refine qr_aload_n 1 rfl rfl rfl ?_
  refine qr_iload_n 2 rfl rfl rfl ?_
  refine qr_iload_n 3 rfl rfl rfl ?_
  refine qr_iload_n 4 rfl rfl rfl ?_
  refine qr_callN 7 rfl rfl rfl (sf_175_86 (d := d + 0) hI r1 r2 r3) ?_
  have hs3 : 0 ≤ σ 86 6 ∧ σ 86 6 ≤ 32 := hI.1 86 6
  rintro _ _ ⟨rfl, v1, rfl, hv1, hp2⟩
  show qr_W (qe L xs vb) (d + 2) qx_e174 _ (7, _, [.int (qz v1)], qw σ α κ ρ, 0, 0)
  refine qr_if_ne 12 10 rfl rfl rfl (qrg hv1 (by decide) (by decide)) (fun h4 => ?_) (fun h4 => ?_)
  · skip
    refine qr_aload_n 13 rfl rfl rfl ?_
    refine qr_get 16 rfl rfl rfl (by decide) rfl ?_
    refine qr_bipush 18 rfl (by decide) rfl ?_
    refine qr_icmp_ne 24 21 rfl rfl rfl (qrg hz86_6 (by decide) (by decide)) (by decide) (fun h5 => ?_) (fun h5 => ?_)
    · skip
      refine qr_aload_n 25 rfl rfl rfl ?_
      refine qr_get 28 rfl rfl rfl (by decide) rfl ?_
      refine qr_aload_n 29 rfl rfl rfl ?_
      refine qr_get 32 rfl rfl rfl (by decide) rfl ?_
      refine qr_iload_n 33 rfl rfl rfl ?_
      refine qr_iastore 34 rfl (by decide) rfl (by omega) (by decide) rfl ?_
      refine qy_wA (qw_r α 91 (qzu (α 91) ((σ 86 6) : Int).toNat x1)) rfl (fun α6 e7 => ?_)
      have hI8 : qI σ α6 κ ρ := by rw [e7]; exact qI_r91 hI _ (show (-1) ≤ x1 ∧ x1 ≤ 31 by omega) (by omega)
      have hF9 : qFr [(86, 6), (86, 15)] [87, 91, 92] σ α σ α6 := by rw [e7]; exact qFr_r hF0 91 _ (by decide)
      refine qr_aload_n 35 rfl rfl rfl ?_
      refine qr_get 38 rfl rfl rfl (by decide) rfl ?_
      refine qr_aload_n 39 rfl rfl rfl ?_
      refine qr_get 42 rfl rfl rfl (by decide) rfl ?_
      refine qr_iload_n 43 rfl rfl rfl ?_
      refine qr_iastore 44 rfl (by decide) rfl (by omega) (by decide) rfl ?_
      refine qy_wA (qw_r α6 92 (qzu (α6 92) ((σ 86 6) : Int).toNat x2)) rfl (fun α10 e11 => ?_)
      have hI12 : qI σ α10 κ ρ := by rw [e11]; exact qI_r hI8 92 _ rfl (show (-2147483648) ≤ x2 ∧ x2 ≤ 2147483647 by omega)
      have hF13 : qFr [(86, 6), (86, 15)] [87, 91, 92] σ α σ α10 := by rw [e11]; exact qFr_r hF9 92 _ (by decide)
      refine qr_aload_n 45 rfl rfl rfl ?_
      refine qr_get 48 rfl rfl rfl (by decide) rfl ?_
      refine qr_iconst 49 rfl rfl ?_
      refine qr_aload_n 50 rfl rfl rfl ?_
      refine qr_get 53 rfl rfl rfl (by decide) rfl ?_
      refine qr_iadd 54 rfl rfl ?_
      refine qr_iload_n 55 rfl rfl rfl ?_
      refine qr_iastore 56 rfl (by decide) rfl (by omega) (by decide) rfl ?_
      refine qy_wA (qw_r α10 87 (qzu (α10 87) ((0 + (σ 86 6)) : Int).toNat x3)) rfl (fun α14 e15 => ?_)
      have hI16 : qI σ α14 κ ρ := by rw [e15]; exact qI_r hI12 87 _ rfl (show (-2147483648) ≤ x3 ∧ x3 ≤ 2147483647 by omega)
      have hF17 : qFr [(86, 6), (86, 15)] [87, 91, 92] σ α σ α14 := by rw [e15]; exact qFr_r hF13 87 _ (by decide)
      refine qr_aload_n 57 rfl rfl rfl ?_
      refine qr_iconst 58 rfl rfl ?_
      refine qr_put 61 rfl (by decide) rfl (Nat.le_of_ble_eq_true rfl) (Nat.le_of_ble_eq_true rfl) (Or.inl rfl) (qr_fitZ rfl (Or.inl rfl)) rfl ?_
      refine qy_wS (qw_s σ 86 15 0) rfl (fun σ18 e19 => ?_)
      have hI20 : qI σ18 α14 κ ρ := by rw [e19]; exact qI_s15z hI16
      have hF21 : qFr [(86, 6), (86, 15)] [87, 91, 92] σ α σ18 α14 := by rw [e19]; exact qFr_s hF17 86 15 _ (by decide)
      refine qr_aload_n 62 rfl rfl rfl ?_
      refine qr_dup 63 rfl rfl rfl ?_
      refine qr_get 66 rfl rfl rfl (by decide) rfl ?_
      refine qy_v (σ 86 6) ((congrFun (congrFun e19 86) 6).trans rfl) ?_
      refine qr_iconst 67 rfl rfl ?_
      refine qr_iadd 68 rfl rfl ?_
      refine qr_put 71 rfl (by decide) rfl (Nat.le_of_ble_eq_true rfl) (Nat.le_of_ble_eq_true rfl) (Or.inl rfl) (qr_fitI rfl _) rfl ?_
      refine qy_wS (qw_s σ18 86 6 ((σ 86 6) + 1)) rfl (fun σ22 e23 => ?_)
      have hI24 : qI σ22 α14 κ ρ := by rw [e23]; exact qI_s6 hI20 (by omega) (by rw [e15, qw_r_ne (by decide), e11, qw_r_ne (by decide), e7, qw_r_eq]; unfold qzu; have h0 := hI.2.2.2.2.2.2.1 0 (by decide); split; (omega); (omega)) (by have hw : σ18 86 15 = 0 := (congrFun (congrFun e19 86) 15).trans rfl; omega) (by have hw : σ18 86 6 = (σ 86 6) := (congrFun (congrFun e19 86) 6).trans rfl; omega)
      have hF25 : qFr [(86, 6), (86, 15)] [87, 91, 92] σ α σ22 α14 := by rw [e23]; exact qFr_s hF21 86 6 _ (by decide)
      refine qr_aload_n 72 rfl rfl rfl ?_
      refine qr_get 75 rfl rfl rfl (by decide) rfl ?_
      refine qy_v ((σ 86 6) + 1) ((congrFun (congrFun e23 86) 6).trans rfl) ?_
      refine qr_iconst 76 rfl rfl ?_
      refine qr_isub 77 rfl rfl ?_
      refine qr_retI rfl rfl (by decide) (by decide) ?_
      exact ⟨_, _, rfl, hI24, hF25, (((σ 86 6) + 1) - 1), rfl, (by omega), (Or.inr (Or.inr ⟨by omega, by omega, by omega, (by have hw : σ22 86 6 = ((σ 86 6) + 1) := (congrFun (congrFun e23 86) 6).trans rfl; omega), (by rw [show α14 91 = (qzu (α 91) ((σ 86 6) : Int).toNat x1) from ((congrFun e15 91).trans ((qw_r_ne (by decide)).trans ((congrFun e11 91).trans ((qw_r_ne (by decide)).trans ((congrFun e7 91).trans (qw_r_eq.trans (congrArg (fun f => qzu f ((σ 86 6) : Int).toNat x1) rfl))))))), show α14 92 = (qzu (α 92) ((σ 86 6) : Int).toNat x2) from ((congrFun e15 92).trans ((qw_r_ne (by decide)).trans ((congrFun e11 92).trans (qw_r_eq.trans (congrArg (fun f => qzu f ((σ 86 6) : Int).toNat x2) ((congrFun e7 92).trans ((qw_r_ne (by decide)).trans rfl))))))), show α14 87 = (qzu (α 87) ((0 + (σ 86 6)) : Int).toNat x3) from ((congrFun e15 87).trans (qw_r_eq.trans (congrArg (fun f => qzu f ((0 + (σ 86 6)) : Int).toNat x3) ((congrFun e11 87).trans ((qw_r_ne (by decide)).trans ((congrFun e7 87).trans ((qw_r_ne (by decide)).trans rfl))))))), show (0 + σ 86 6 : Int).toNat = (σ 86 6 : Int).toNat by omega]; rfl)⟩))⟩
    · skip
      refine qr_bipush 23 rfl (by decide) rfl ?_
      refine qr_retI rfl rfl (by decide) (by decide) ?_
      exact ⟨_, _, rfl, hI, hF0, (-3), rfl, (by decide), (Or.inr (Or.inl ⟨rfl, by omega, by omega, rfl, rfl⟩))⟩
  · skip
    refine qr_iconst 11 rfl rfl ?_
    refine qr_retI rfl rfl (by decide) (by decide) ?_
    exact ⟨_, _, rfl, hI, hF0, (-1), rfl, (by decide), (Or.inl ⟨rfl, by omega, rfl, rfl⟩)⟩

set_option maxHeartbeats 4000000 in
set_option maxRecDepth 20000 in
/-- OneRoof.people -/
theorem sf_43_16z {L : Nat} {xs : Nat → Int} {vb : Bool} {d : Nat} {σ α : Nat → Nat → Int} {κ : Nat → Option Nat} {ρ : Nat} {x1 : Int} {x2 : Int} {x3 : Int} (hI : qI σ α κ ρ) (r1 : (-2147483648) ≤ x1 ∧ x1 ≤ 2147483647) (r2 : (-2147483648) ≤ x2 ∧ x2 ≤ 2147483647) (r3 : (-2147483648) ≤ x3 ∧ x3 ≤ 2147483647) : qm_T (qe L xs vb) (d + 3) 43 [.ref 16, .int (qz x1), .int (qz x2), .int (qz x3)] (qw σ α κ ρ) (fun r w' => ∃ σ' α', w' = qw σ' α' κ ρ ∧ qI σ' α' κ ρ ∧ qFr [(17, 6)] [18, 19, 20, 22] σ α σ' α' ∧ ∃ v : Int, r = some (.int (qz v)) ∧ ((-2147483648) ≤ v ∧ v ≤ 2147483647) ∧ ((v = -1 ∧ ¬ (0 ≤ x1 ∧ x1 ≤ 5 ∧ 1 ≤ x3 ∧ x3 ≤ 20) ∧ σ' 17 6 = σ 17 6 ∧ (α' 18, α' 19, α' 20, α' 22) = (α 18, α 19, α 20, α 22)) ∨ (v = 0 ∧ (0 ≤ x1 ∧ x1 ≤ 5 ∧ 1 ≤ x3 ∧ x3 ≤ 20) ∧ α 45 (x1 : Int).toNat = 6 ∧ σ' 17 6 = σ 17 6 ∧ (α' 18, α' 19, α' 20, α' 22) = (α 18, α 19, α 20, α 22)) ∨ (v = -12 ∧ (0 ≤ x1 ∧ x1 ≤ 5 ∧ 1 ≤ x3 ∧ x3 ≤ 20) ∧ (¬ α 45 (x1 : Int).toNat = 6 ∧ ¬ α 45 (x1 : Int).toNat = 0) ∧ σ' 17 6 = σ 17 6 ∧ (α' 18, α' 19, α' 20, α' 22) = (α 18, α 19, α 20, α 22)) ∨ ((0 ≤ x1 ∧ x1 ≤ 5 ∧ 1 ≤ x3 ∧ x3 ≤ 20) ∧ α 45 (x1 : Int).toNat = 0 ∧ (v, σ' 17 6, (α' 18, α' 19, α' 20, α' 22)) = qps qstc (α 48) (x1 * 60) (α 46 (x1 : Int).toNat) x2 (x3 : Int).toNat 0 (σ 17 6) (α 18, α 19, α 20, α 22)))) := by
  refine qr_start (d := d + 2) qv_e43 (Nat.le_of_ble_eq_true rfl) ?_
  show qr_W (qe L xs vb) (d + 2) qx_e43 _ (0, [(0, .ref 16), (1, .int (qz x1)), (2, .int (qz x2)), (3, .int (qz x3))], [], _, 0, 0)
  have hF0 := qFr_rf [(17, 6)] [18, 19, 20, 22] σ α
  refine qr_aload_n 1 rfl rfl rfl ?_
  refine qr_get 4 rfl rfl rfl (by decide) rfl ?_
  refine qr_iload_n 5 rfl rfl rfl ?_
  refine qr_callN 8 rfl rfl rfl (sf_44_44 (d := d + 1) hI r1) ?_
  rintro _ _ ⟨rfl, v1, rfl, hv1, hp2⟩
  show qr_W (qe L xs vb) (d + 2) qx_e43 _ (8, _, [.int (qz v1)], qw σ α κ ρ, 0, 0)
  refine qr_if_eq 22 11 rfl rfl rfl (qrg hv1 (by decide) (by decide)) (fun h3 => ?_) (fun h3 => ?_)
  · skip
    refine qr_iconst 23 rfl rfl ?_
    refine qr_retI rfl rfl (by decide) (by decide) ?_
    exact ⟨_, _, rfl, hI, hF0, (-1), rfl, (by decide), (Or.inl ⟨rfl, by omega, rfl, rfl⟩)⟩
  · skip
    refine qr_iload_n 12 rfl rfl rfl ?_
    refine qr_iconst 13 rfl rfl ?_
    refine qr_icmp_lt 22 16 rfl rfl rfl r3 (by decide) (fun h4 => ?_) (fun h4 => ?_)
    · skip
      refine qr_iconst 23 rfl rfl ?_
      refine qr_retI rfl rfl (by decide) (by decide) ?_
      exact ⟨_, _, rfl, hI, hF0, (-1), rfl, (by decide), (Or.inl ⟨rfl, by omega, rfl, rfl⟩)⟩
    · skip
      refine qr_iload_n 17 rfl rfl rfl ?_
      refine qr_bipush 19 rfl (by decide) rfl ?_
      refine qr_icmp_le 24 22 rfl rfl rfl r3 (by decide) (fun h5 => ?_) (fun h5 => ?_)
      · skip
        refine qr_aload_n 25 rfl rfl rfl ?_
        refine qr_get 28 rfl rfl rfl (by decide) rfl ?_
        refine qr_iload_n 29 rfl rfl rfl ?_
        refine qr_callN 32 rfl rfl rfl (sf_45_44x (d := d + 1) hI (by omega)) ?_
        rintro _ _ ⟨rfl, v6, rfl, hv6, hp7⟩
        show qr_W (qe L xs vb) (d + 2) qx_e43 _ (32, _, [.int (qz v6)], qw σ α κ ρ, 0, 0)
        refine qr_if_eq 37 35 rfl rfl rfl (qrg hv6 (by decide) (by decide)) (fun h8 => ?_) (fun h8 => ?_)
        · skip
          refine qr_aload_n 38 rfl rfl rfl ?_
          refine qr_get 41 rfl rfl rfl (by decide) rfl ?_
          refine qr_iload_n 42 rfl rfl rfl ?_
          refine qr_iconst 43 rfl rfl ?_
          refine qr_callN 46 rfl rfl rfl (sf_46_44x (d := d + 0) hI (by omega) (by decide)) ?_
          rintro _ _ ⟨rfl, v9, rfl, hv9, hp10⟩
          show qr_W (qe L xs vb) (d + 2) qx_e43 _ (46, _, [.int (qz v9)], qw σ α κ ρ, 0, 0)
          refine qr_if_ne 52 49 rfl rfl rfl (qrg hv9 (by decide) (by decide)) (fun h11 => ?_) (fun h11 => ?_)
          · skip
            refine qr_iconst 53 rfl rfl ?_
            refine qr_istore _ 55 rfl (by decide) rfl rfl ?_
            have hL467 : ∀ (n : Nat) (ls : qm_L) (u459 : Int) (σ460 α461 : Nat → Nat → Int), 20 - u459 < (n : Int) → qm_get ls 0 = some (.ref 16) → qm_get ls 1 = some (.int (qz x1)) → qm_get ls 2 = some (.int (qz x2)) → qm_get ls 3 = some (.int (qz x3)) → qm_get ls 4 = some (.int (qz u459)) → (0 ≤ u459 ∧ u459 ≤ 20) → qI σ460 α461 κ ρ → qFr [(17, 6)] [18, 19, 20, 22] σ α σ460 α461 → qps qstc (α 48) (x1 * 60) (α 46 (x1 : Int).toNat) x2 (x3 - u459 : Int).toNat u459 (σ460 17 6) (α461 18, α461 19, α461 20, α461 22) = qps qstc (α 48) (x1 * 60) (α 46 (x1 : Int).toNat) x2 (x3 : Int).toNat 0 (σ 17 6) (α 18, α 19, α 20, α 22) → u459 ≤ x3 → qr_W (qe L xs vb) (d + 2) qx_e43 (fun r w' => ∃ σ' α', w' = qw σ' α' κ ρ ∧ qI σ' α' κ ρ ∧ qFr [(17, 6)] [18, 19, 20, 22] σ α σ' α' ∧ ∃ v : Int, r = some (.int (qz v)) ∧ ((-2147483648) ≤ v ∧ v ≤ 2147483647) ∧ ((v = -1 ∧ ¬ (0 ≤ x1 ∧ x1 ≤ 5 ∧ 1 ≤ x3 ∧ x3 ≤ 20) ∧ σ' 17 6 = σ 17 6 ∧ (α' 18, α' 19, α' 20, α' 22) = (α 18, α 19, α 20, α 22)) ∨ (v = 0 ∧ (0 ≤ x1 ∧ x1 ≤ 5 ∧ 1 ≤ x3 ∧ x3 ≤ 20) ∧ α 45 (x1 : Int).toNat = 6 ∧ σ' 17 6 = σ 17 6 ∧ (α' 18, α' 19, α' 20, α' 22) = (α 18, α 19, α 20, α 22)) ∨ (v = -12 ∧ (0 ≤ x1 ∧ x1 ≤ 5 ∧ 1 ≤ x3 ∧ x3 ≤ 20) ∧ (¬ α 45 (x1 : Int).toNat = 6 ∧ ¬ α 45 (x1 : Int).toNat = 0) ∧ σ' 17 6 = σ 17 6 ∧ (α' 18, α' 19, α' 20, α' 22) = (α 18, α 19, α 20, α 22)) ∨ ((0 ≤ x1 ∧ x1 ≤ 5 ∧ 1 ≤ x3 ∧ x3 ≤ 20) ∧ α 45 (x1 : Int).toNat = 0 ∧ (v, σ' 17 6, (α' 18, α' 19, α' 20, α' 22)) = qps qstc (α 48) (x1 * 60) (α 46 (x1 : Int).toNat) x2 (x3 : Int).toNat 0 (σ 17 6) (α 18, α 19, α 20, α 22)))) (55, ls, [], qw σ460 α461 κ ρ, 0, 0) := by
              intro n
              induction n with
              | zero => intro ls u459 σ460 α461 hm g454 g455 g456 g457 g458 hf464 hI462 hF463 hx465 hx466; exact False.elim (by omega)
              | succ n ih468 =>
                intro ls u459 σ460 α461 hm g454 g455 g456 g457 g458 hf464 hI462 hF463 hx465 hx466
                have hs469 : 0 ≤ σ460 17 6 ∧ σ460 17 6 ≤ 32 := hI462.1 17 6
                refine qr_iload 57 rfl g458 rfl ?_
                refine qr_iload_n 58 rfl g457 rfl ?_
                refine qr_icmp_ge 200 61 rfl rfl rfl (qrg hf464 (by decide) (by decide)) r3 (fun h470 => ?_) (fun h470 => ?_)
                · skip
                  refine qr_iload_n 201 rfl g457 rfl ?_
                  refine qr_retI rfl rfl (by decide) (by decide) ?_
                  exact ⟨_, _, rfl, hI462, hF463, x3, rfl, r3, (Or.inr (Or.inr (Or.inr ⟨by omega, by omega, (congrArg (fun t : Int => (t, σ460 17 6, (α461 18, α461 19, α461 20, α461 22))) (show x3 = u459 by omega)).trans ((qps_0 (by omega)).symm.trans hx465)⟩)))⟩
                · skip
                  refine qr_iload_n 62 rfl g456 rfl ?_
                  refine qr_i2l 63 rfl r2 rfl ?_
                  refine qr_ldc2 3 66 rfl (by decide) rfl ?_
                  refine qr_iload 68 rfl g458 rfl ?_
                  refine qr_i2l 69 rfl (qrg hf464 (by decide) (by decide)) rfl ?_
                  refine qr_lmul 70 rfl rfl ?_
                  refine qr_ladd 71 rfl rfl ?_
                  refine qr_lstore _ 73 rfl (by decide) rfl rfl ?_
                  have hq471 : α461 46 (x1 : Int).toNat = α 46 (x1 : Int).toNat := congrFun (hF463.2 46 (by decide)) _
                  refine qr_lload 75 rfl (qm_ge2 _ _ _) rfl ?_
                  refine qr_lconst 76 rfl rfl ?_
                  refine qy_vl 0 rfl ?_
                  refine qr_lc_lt 112 80 rfl rfl rfl rfl (by omega) (by decide) (fun h472 => ?_) (fun h472 => ?_)
                  · skip
                    refine qr_iload 114 rfl (qm_gk2 g458 (by decide) (by decide) (Or.inr rfl)) rfl ?_
                    refine qr_retI rfl rfl (by decide) (by decide) ?_
                    exact ⟨_, _, rfl, hI462, hF463, u459, rfl, (qrg hf464 (by decide) (by decide)), (Or.inr (Or.inr (Or.inr ⟨by omega, by omega, (qps_stop (fun hc => by obtain ⟨h1, h2, h3, h4⟩ := hc; omega)).symm.trans hx465⟩)))⟩
                  · skip
                    refine qr_lload 82 rfl (qm_ge2 _ _ _) rfl ?_
                    refine qr_ldc2 2 85 rfl (by decide) rfl ?_
                    refine qr_ladd 86 rfl rfl ?_
                    refine qr_aload_n 87 rfl (qm_gk2 g454 (by decide) (by decide) (Or.inl (by decide))) rfl ?_
                    refine qr_get 90 rfl rfl rfl (by decide) rfl ?_
                    refine qr_get 93 rfl rfl rfl (by decide) rfl ?_
                    refine qr_iload_n 94 rfl (qm_gk2 g455 (by decide) (by decide) (Or.inl (by decide))) rfl ?_
                    refine qr_iaload 95 rfl rfl (by omega) (by decide) rfl ?_
                    refine qr_topI (fun v473 hv473 => ?_)
                    have hs474 : 0 ≤ v473 ∧ v473 ≤ 60 := by rw [hv473]; exact hI462.2.1 46 _ (show _ < 6 by omega)
                    refine qr_i2l 96 rfl (qrg hs474 (by decide) (by decide)) rfl ?_
                    refine qr_lc_ge 112 100 rfl rfl rfl rfl (by omega) (qrg hs474 (by decide) (by decide)) (fun h475 => ?_) (fun h475 => ?_)
                    · skip
                      refine qr_iload 114 rfl (qm_gk2 g458 (by decide) (by decide) (Or.inr rfl)) rfl ?_
                      refine qr_retI rfl rfl (by decide) (by decide) ?_
                      exact ⟨_, _, rfl, hI462, hF463, u459, rfl, (qrg hf464 (by decide) (by decide)), (Or.inr (Or.inr (Or.inr ⟨by omega, by omega, (qps_stop (fun hc => by obtain ⟨h1, h2, h3, h4⟩ := hc; omega)).symm.trans hx465⟩)))⟩
                    · skip
                      refine qr_aload_n 101 rfl (qm_gk2 g454 (by decide) (by decide) (Or.inl (by decide))) rfl ?_
                      refine qr_get 104 rfl rfl rfl (by decide) rfl ?_
                      refine qr_get 107 rfl rfl rfl (by decide) rfl ?_
                      refine qr_bipush 109 rfl (by decide) rfl ?_
                      refine qr_icmp_lt 115 112 rfl rfl rfl (by omega) (by decide) (fun h476 => ?_) (fun h476 => ?_)
                      · skip
                        refine qr_aload_n 116 rfl (qm_gk2 g454 (by decide) (by decide) (Or.inl (by decide))) rfl ?_
                        refine qr_get 119 rfl rfl rfl (by decide) rfl ?_
                        refine qr_iload_n 120 rfl (qm_gk2 g455 (by decide) (by decide) (Or.inl (by decide))) rfl ?_
                        refine qr_lload 122 rfl (qm_ge2 _ _ _) rfl ?_
                        refine qr_l2i 123 rfl rfl ?_
                        refine qr_callN 126 rfl rfl rfl (sf_48_44x (d := d + 1) hI462 (by omega) (by omega)) ?_
                        rintro _ _ ⟨rfl, v477, rfl, hv477, hp478⟩
                        show qr_W (qe L xs vb) (d + 2) qx_e43 _ (126, _, [.long (ql v477)], qw σ460 α461 κ ρ, 0, 0)
                        refine qr_l2i 127 rfl rfl ?_
                        refine qy_canE (fun v479 hv479 hev479 => ?_)
                        refine qr_istore _ 129 rfl (by decide) rfl rfl ?_
                        refine qr_aload_n 130 rfl (qm_gk (qm_gk2 g454 (by decide) (by decide) (Or.inl (by decide))) (by decide) (Or.inl (by decide))) rfl ?_
                        refine qr_get 133 rfl rfl rfl (by decide) rfl ?_
                        refine qr_iload_n 134 rfl (qm_gk (qm_gk2 g455 (by decide) (by decide) (Or.inl (by decide))) (by decide) (Or.inl (by decide))) rfl ?_
                        refine qr_lload 136 rfl (qm_gk (qm_ge2 _ _ _) (by decide) (Or.inl (by decide))) rfl ?_
                        refine qr_l2i 137 rfl rfl ?_
                        refine qr_iconst 138 rfl rfl ?_
                        refine qr_iadd 139 rfl rfl ?_
                        refine qr_callN 142 rfl rfl rfl (sf_48_44x (d := d + 1) hI462 (by omega) (by omega)) ?_
                        rintro _ _ ⟨rfl, v480, rfl, hv480, hp481⟩
                        show qr_W (qe L xs vb) (d + 2) qx_e43 _ (142, _, [.long (ql v480)], qw σ460 α461 κ ρ, 0, 0)
                        refine qr_l2i 143 rfl rfl ?_
                        refine qy_canE (fun v482 hv482 hev482 => ?_)
                        refine qr_istore _ 145 rfl (by decide) rfl rfl ?_
                        refine qr_aload_n 146 rfl (qm_gk (qm_gk (qm_gk2 g454 (by decide) (by decide) (Or.inl (by decide))) (by decide) (Or.inl (by decide))) (by decide) (Or.inl (by decide))) rfl ?_
                        refine qr_get 149 rfl rfl rfl (by decide) rfl ?_
                        refine qr_iload_n 150 rfl (qm_gk (qm_gk (qm_gk2 g455 (by decide) (by decide) (Or.inl (by decide))) (by decide) (Or.inl (by decide))) (by decide) (Or.inl (by decide))) rfl ?_
                        as_aux_lemma =>
                          refine qr_lload 152 rfl (qm_gk (qm_gk (qm_ge2 _ _ _) (by decide) (Or.inl (by decide))) (by decide) (Or.inl (by decide))) rfl ?_
                          refine qr_l2i 153 rfl rfl ?_
                          refine qr_iconst 154 rfl rfl ?_
                          refine qr_iadd 155 rfl rfl ?_
                          refine qr_callN 158 rfl rfl rfl (sf_48_44x (d := d + 1) hI462 (by omega) (by omega)) ?_
                          rintro _ _ ⟨rfl, v483, rfl, hv483, hp484⟩
                          show qr_W (qe L xs vb) (d + 2) qx_e43 _ (158, _, [.long (ql v483)], qw σ460 α461 κ ρ, 0, 0)
                          refine qr_l2i 159 rfl rfl ?_
                          refine qy_canE (fun v485 hv485 hev485 => ?_)
                          refine qr_istore _ 161 rfl (by decide) rfl rfl ?_
                          have e486 : v479 = qpa (α 48) (x1 * 60) (x2 + 3 * u459) := (qna_i hev479 (by omega)).trans (congrArg (fun t : Int => (qz t).toInt) (hp478.trans ((congrFun (hF463.2 48 (by decide)) _).trans (congrArg (fun j : Int => α 48 j.toNat) (by omega)))))
                          have e487 : v482 = qpa (α 48) (x1 * 60) (x2 + 3 * u459 + 1) := (qna_i hev482 (by omega)).trans (congrArg (fun t : Int => (qz t).toInt) (hp481.trans ((congrFun (hF463.2 48 (by decide)) _).trans (congrArg (fun j : Int => α 48 j.toNat) (by omega)))))
                          have e488 : v485 = qpa (α 48) (x1 * 60) (x2 + 3 * u459 + 2) := (qna_i hev485 (by omega)).trans (congrArg (fun t : Int => (qz t).toInt) (hp484.trans ((congrFun (hF463.2 48 (by decide)) _).trans (congrArg (fun j : Int => α 48 j.toNat) (by omega)))))
                          refine qr_aload_n 162 rfl (qm_gk (qm_gk (qm_gk (qm_gk2 g454 (by decide) (by decide) (Or.inl (by decide))) (by decide) (Or.inl (by decide))) (by decide) (Or.inl (by decide))) (by decide) (Or.inl (by decide))) rfl ?_
                          refine qr_get 165 rfl rfl rfl (by decide) rfl ?_
                          refine qr_iload 167 rfl (qm_gk (qm_gk (qm_ge _ _ _) (by decide) (Or.inr rfl)) (by decide) (Or.inl (by decide))) rfl ?_
                          refine qr_iload 169 rfl (qm_gk (qm_ge _ _ _) (by decide) (Or.inr rfl)) rfl ?_
                          refine qr_iload 171 rfl (qm_ge _ _ _) rfl ?_
                          refine qr_callN 174 rfl rfl rfl (sf_39_17x (d := d + 0) hI462 hv479 hv482 hv485) ?_
                          have hs491 : 0 ≤ σ460 17 6 ∧ σ460 17 6 ≤ 32 := hI462.1 17 6
                          rintro _ _ ⟨rfl, v489, rfl, hv489, hp490⟩
                          show qr_W (qe L xs vb) (d + 2) qx_e43 _ (174, _, [.int (qz v489)], qw σ460 α461 κ ρ, 0, 0)
                          refine qr_if_ne 180 177 rfl rfl rfl (qrg hv489 (by decide) (by decide)) (fun h492 => ?_) (fun h492 => ?_)
                          · skip
                            refine qr_aload_n 181 rfl (qm_gk (qm_gk (qm_gk (qm_gk2 g454 (by decide) (by decide) (Or.inl (by decide))) (by decide) (Or.inl (by decide))) (by decide) (Or.inl (by decide))) (by decide) (Or.inl (by decide))) rfl ?_
                            refine qr_get 184 rfl rfl rfl (by decide) rfl ?_
                            refine qr_iload 186 rfl (qm_gk (qm_gk (qm_ge _ _ _) (by decide) (Or.inr rfl)) (by decide) (Or.inl (by decide))) rfl ?_
                            refine qr_iload 188 rfl (qm_gk (qm_ge _ _ _) (by decide) (Or.inr rfl)) rfl ?_
                            refine qr_iload 190 rfl (qm_ge _ _ _) rfl ?_
                            have hs493 : 0 ≤ σ460 17 6 ∧ σ460 17 6 ≤ 32 := hI462.1 17 6
                            refine qr_callN 193 rfl rfl rfl (sf_42_17z (d := d + 1) hI462 (by omega) (by omega) (by omega) (by omega)) ?_
                            have hs498 : 0 ≤ σ460 17 6 ∧ σ460 17 6 ≤ 32 := hI462.1 17 6
                            rintro _ _ ⟨σ499, α500, rfl, hI501, hG502, hw497, v494, rfl, hv494, hp495, hx496⟩
                            have hF503 : qFr [(17, 6)] [18, 19, 20, 22] σ α σ499 α500 := qFr_t hF463 hG502 (by decide) (by decide)
                            have hs504 : 0 ≤ σ499 17 6 ∧ σ499 17 6 ≤ 32 := hI501.1 17 6
                            show qr_W (qe L xs vb) (d + 2) qx_e43 _ (193, _, [.int (qz v494)], qw σ499 α500 κ ρ, 0, 0)
                            refine qr_pop 194 rfl rfl rfl ?_
                            refine qr_iinc _ 197 rfl (qm_gk (qm_gk (qm_gk (qm_gk2 g458 (by decide) (by decide) (Or.inr rfl)) (by decide) (Or.inl (by decide))) (by decide) (Or.inl (by decide))) (by decide) (Or.inl (by decide))) (by decide) rfl rfl ?_
                            refine qr_goto 55 rfl rfl ?_
                            exact ih468 _ (u459 + 1) σ499 α500 (by omega) (qm_gk (qm_gk (qm_gk (qm_gk (qm_gk2 g454 (by decide) (by decide) (Or.inl (by decide))) (by decide) (Or.inl (by decide))) (by decide) (Or.inl (by decide))) (by decide) (Or.inl (by decide))) (by decide) (Or.inl (by decide))) (qm_gk (qm_gk (qm_gk (qm_gk (qm_gk2 g455 (by decide) (by decide) (Or.inl (by decide))) (by decide) (Or.inl (by decide))) (by decide) (Or.inl (by decide))) (by decide) (Or.inl (by decide))) (by decide) (Or.inl (by decide))) (qm_gk (qm_gk (qm_gk (qm_gk (qm_gk2 g456 (by decide) (by decide) (Or.inl (by decide))) (by decide) (Or.inl (by decide))) (by decide) (Or.inl (by decide))) (by decide) (Or.inl (by decide))) (by decide) (Or.inl (by decide))) (qm_gk (qm_gk (qm_gk (qm_gk (qm_gk2 g457 (by decide) (by decide) (Or.inl (by decide))) (by decide) (Or.inl (by decide))) (by decide) (Or.inl (by decide))) (by decide) (Or.inl (by decide))) (by decide) (Or.inr rfl)) (qm_ge _ _ _) (by omega) hI501 hF503 (by rw [hx496, hw497, e486, e487, e488]; exact (qps_go (m := (x3 - (u459 + 1) : Int).toNat) (⟨by omega, by omega, by omega, by unfold qfit; rw [← e486, ← e487, ← e488]; omega⟩) (by omega)).symm.trans hx465) (by omega)
                          · skip
                            refine qr_iload 179 rfl (qm_gk (qm_gk (qm_gk (qm_gk2 g458 (by decide) (by decide) (Or.inr rfl)) (by decide) (Or.inl (by decide))) (by decide) (Or.inl (by decide))) (by decide) (Or.inl (by decide))) rfl ?_
                            refine qr_retI rfl rfl (by decide) (by decide) ?_
                            exact ⟨_, _, rfl, hI462, hF463, u459, rfl, (qrg hf464 (by decide) (by decide)), (Or.inr (Or.inr (Or.inr ⟨by omega, by omega, (qps_stop (fun hc => by obtain ⟨h1, h2, h3, h4⟩ := hc; unfold qfit at h4; rw [← e486, ← e487, ← e488] at h4; omega)).symm.trans hx465⟩)))⟩
                      · skip
                        refine qr_iload 114 rfl (qm_gk2 g458 (by decide) (by decide) (Or.inr rfl)) rfl ?_
                        refine qr_retI rfl rfl (by decide) (by decide) ?_
                        exact ⟨_, _, rfl, hI462, hF463, u459, rfl, (qrg hf464 (by decide) (by decide)), (Or.inr (Or.inr (Or.inr ⟨by omega, by omega, (qps_stop (fun hc => by obtain ⟨h1, h2, h3, h4⟩ := hc; omega)).symm.trans hx465⟩)))⟩
            exact hL467 ((20 - 0 + 1 : Int)).toNat _ 0 σ α (by omega) rfl rfl rfl rfl rfl (by decide) hI hF0 (by rw [show (x3 - 0 : Int).toNat = (x3 : Int).toNat by omega]) (by omega)
          · skip
            refine qr_bipush 51 rfl (by decide) rfl ?_
            refine qr_retI rfl rfl (by decide) (by decide) ?_
            exact ⟨_, _, rfl, hI, hF0, (-12), rfl, (by decide), (Or.inr (Or.inr (Or.inl ⟨rfl, by omega, ⟨by omega, by omega⟩, rfl, rfl⟩)))⟩
        · skip
          refine qr_iconst 36 rfl rfl ?_
          refine qr_retI rfl rfl (by decide) (by decide) ?_
          exact ⟨_, _, rfl, hI, hF0, 0, rfl, (by decide), (Or.inr (Or.inl ⟨rfl, by omega, by omega, rfl, rfl⟩))⟩
      · skip
        refine qr_iconst 23 rfl rfl ?_
        refine qr_retI rfl rfl (by decide) (by decide) ?_
        exact ⟨_, _, rfl, hI, hF0, (-1), rfl, (by decide), (Or.inl ⟨rfl, by omega, rfl, rfl⟩)⟩

set_option maxHeartbeats 4000000 in
set_option maxRecDepth 20000 in
/-- OneRoofModel.people -/
theorem sf_177_86z {L : Nat} {xs : Nat → Int} {vb : Bool} {d : Nat} {σ α : Nat → Nat → Int} {κ : Nat → Option Nat} {ρ : Nat} {x1 : Int} {x2 : Int} {x3 : Int} (hI : qI σ α κ ρ) (r1 : (-2147483648) ≤ x1 ∧ x1 ≤ 2147483647) (r2 : (-2147483648) ≤ x2 ∧ x2 ≤ 2147483647) (r3 : (-2147483648) ≤ x3 ∧ x3 ≤ 2147483647) : qm_T (qe L xs vb) (d + 4) 177 [.ref 86, .int (qz x1), .int (qz x2), .int (qz x3)] (qw σ α κ ρ) (fun r w' => ∃ σ' α', w' = qw σ' α' κ ρ ∧ qI σ' α' κ ρ ∧ qFr [(86, 6), (86, 15)] [87, 91, 92] σ α σ' α' ∧ ∃ v : Int, r = some (.int (qz v)) ∧ ((-2147483648) ≤ v ∧ v ≤ 2147483647) ∧ ((v = -1 ∧ ¬ (0 ≤ x1 ∧ x1 ≤ 5 ∧ 1 ≤ x3 ∧ x3 ≤ 20) ∧ σ' 86 6 = σ 86 6 ∧ (α' 91, α' 92, α' 87) = (α 91, α 92, α 87)) ∨ (v = 0 ∧ (0 ≤ x1 ∧ x1 ≤ 5 ∧ 1 ≤ x3 ∧ x3 ≤ 20) ∧ α 121 (x1 : Int).toNat < 0 ∧ σ' 86 6 = σ 86 6 ∧ (α' 91, α' 92, α' 87) = (α 91, α 92, α 87)) ∨ (v = -12 ∧ (0 ≤ x1 ∧ x1 ≤ 5 ∧ 1 ≤ x3 ∧ x3 ≤ 20) ∧ (0 ≤ α 121 (x1 : Int).toNat ∧ ¬ α 121 (x1 : Int).toNat = 60) ∧ σ' 86 6 = σ 86 6 ∧ (α' 91, α' 92, α' 87) = (α 91, α 92, α 87)) ∨ ((0 ≤ x1 ∧ x1 ≤ 5 ∧ 1 ≤ x3 ∧ x3 ≤ 20) ∧ α 121 (x1 : Int).toNat = 60 ∧ (v, σ' 86 6, (α' 91, α' 92, α' 87)) = qps qstm (α 123) (60 * x1) (α 122 (x1 : Int).toNat) x2 (x3 : Int).toNat 0 (σ 86 6) (α 91, α 92, α 87)))) := by
  refine qr_start (d := d + 3) qv_e177 (Nat.le_of_ble_eq_true rfl) ?_
  show qr_W (qe L xs vb) (d + 3) qx_e177 _ (0, [(0, .ref 86), (1, .int (qz x1)), (2, .int (qz x2)), (3, .int (qz x3))], [], _, 0, 0)
  have hF0 := qFr_rf [(86, 6), (86, 15)] [87, 91, 92] σ α
  have hz86_6 : 0 ≤ σ 86 6 ∧ σ 86 6 ≤ 32 := hI.1 86 6
  refine qr_iload_n 1 rfl rfl rfl ?_
  refine qr_callN 4 rfl rfl rfl (sf_178 (d := d + 1) hI r1) ?_
  rintro _ _ ⟨rfl, v1, rfl, hv1, hp2⟩
  show qr_W (qe L xs vb) (d + 3) qx_e177 _ (4, _, [.int (qz v1)], qw σ α κ ρ, 0, 0)
  refine qr_if_eq 19 7 rfl rfl rfl (qrg hv1 (by decide) (by decide)) (fun h3 => ?_) (fun h3 => ?_)
  · skip
    refine qr_iconst 20 rfl rfl ?_
    refine qr_retI rfl rfl (by decide) (by decide) ?_
    exact ⟨_, _, rfl, hI, hF0, (-1), rfl, (by decide), (Or.inl ⟨rfl, by omega, rfl, rfl⟩)⟩
  · skip
    refine qr_iload_n 8 rfl rfl rfl ?_
    refine qr_i2l 9 rfl r3 rfl ?_
    refine qr_lconst 10 rfl rfl ?_
    refine qy_vl 1 rfl ?_
    refine qr_ldc2 20 13 rfl (by decide) rfl ?_
    refine qr_callN 16 rfl rfl rfl (sf_176 (d := d + 2) hI (qrg r3 (by decide) (by decide)) (by decide) (by decide)) ?_
    rintro _ _ ⟨rfl, v4, rfl, hv4, hp5⟩
    show qr_W (qe L xs vb) (d + 3) qx_e177 _ (16, _, [.int (qz v4)], qw σ α κ ρ, 0, 0)
    refine qr_if_ne 21 19 rfl rfl rfl (qrg hv4 (by decide) (by decide)) (fun h6 => ?_) (fun h6 => ?_)
    · skip
      refine qr_aload_n 22 rfl rfl rfl ?_
      refine qr_get 25 rfl rfl rfl (by decide) rfl ?_
      refine qr_iload_n 26 rfl rfl rfl ?_
      refine qr_iaload 27 rfl rfl (by omega) (by decide) rfl ?_
      refine qr_topI (fun v7 hv7 => ?_)
      have hs8 : (-1) ≤ v7 ∧ v7 ≤ 64 := by rw [hv7]; exact hI.2.1 121 _ (show _ < 6 by omega)
      refine qr_if_lt 44 30 rfl rfl rfl (qrg hs8 (by decide) (by decide)) (fun h9 => ?_) (fun h9 => ?_)
      · skip
        refine qr_iconst 45 rfl rfl ?_
        refine qr_istore _ 47 rfl (by decide) rfl rfl ?_
        refine qr_aload_n 48 rfl rfl rfl ?_
        refine qr_get 51 rfl rfl rfl (by decide) rfl ?_
        refine qr_iload_n 52 rfl rfl rfl ?_
        refine qr_iaload 53 rfl rfl (by omega) (by decide) rfl ?_
        refine qr_topI (fun v10 hv10 => ?_)
        have hs11 : (-1) ≤ v10 ∧ v10 ≤ 64 := by rw [hv10]; exact hI.2.1 121 _ (show _ < 6 by omega)
        refine qr_bipush 55 rfl (by decide) rfl ?_
        refine qr_icmp_ne 66 58 rfl rfl rfl (qrg hs11 (by decide) (by decide)) (by decide) (fun h12 => ?_) (fun h12 => ?_)
        · skip
          refine qr_iconst 67 rfl rfl ?_
          refine qr_istore _ 69 rfl (by decide) rfl rfl ?_
          refine qr_iload 71 rfl rfl rfl ?_
          refine qr_if_eq 218 74 rfl rfl rfl (by decide) (fun h13 => ?_) (fun h => False.elim (by omega))
          refine qr_iload 220 rfl rfl rfl ?_
          refine qr_retI rfl rfl (by decide) (by decide) ?_
          exact ⟨_, _, rfl, hI, hF0, 0, rfl, (by decide), (Or.inr (Or.inl ⟨rfl, by omega, by omega, rfl, rfl⟩))⟩
        · skip
          refine qr_iload_n 59 rfl rfl rfl ?_
          refine qr_if_lt 66 62 rfl rfl rfl r2 (fun h14 => ?_) (fun h14 => ?_)
          · skip
            refine qr_iconst 67 rfl rfl ?_
            refine qr_istore _ 69 rfl (by decide) rfl rfl ?_
            refine qr_iload 71 rfl rfl rfl ?_
            refine qr_if_eq 218 74 rfl rfl rfl (by decide) (fun h15 => ?_) (fun h => False.elim (by omega))
            refine qr_iload 220 rfl rfl rfl ?_
            refine qr_retI rfl rfl (by decide) (by decide) ?_
            exact ⟨_, _, rfl, hI, hF0, 0, rfl, (by decide), (Or.inr (Or.inr (Or.inr ⟨by omega, by omega, (qps_stop (fun hc => by obtain ⟨h1, h2, h3, h4⟩ := hc; omega)).symm⟩)))⟩
          · skip
            refine qr_iconst 63 rfl rfl ?_
            refine qr_goto 67 rfl rfl ?_
            refine qr_istore _ 69 rfl (by decide) rfl rfl ?_
            have hL655 : ∀ (n : Nat) (ls : qm_L) (u644 u646 : Int) (σ647 α648 : Nat → Nat → Int), 20 - u644 < (n : Int) → qm_get ls 0 = some (.ref 86) → qm_get ls 1 = some (.int (qz x1)) → qm_get ls 2 = some (.int (qz x2)) → qm_get ls 3 = some (.int (qz x3)) → qm_get ls 4 = some (.int (qz u644)) → qm_get ls 5 = some (.int (qz u646)) → (0 ≤ u644 ∧ u644 ≤ 20) → (1 ≤ u646 ∧ u646 ≤ 1) → qI σ647 α648 κ ρ → qFr [(86, 6), (86, 15)] [87, 91, 92] σ α σ647 α648 → qps qstm (α 123) (60 * x1) (α 122 (x1 : Int).toNat) x2 (x3 - u644 : Int).toNat u644 (σ647 86 6) (α648 91, α648 92, α648 87) = qps qstm (α 123) (60 * x1) (α 122 (x1 : Int).toNat) x2 (x3 : Int).toNat 0 (σ 86 6) (α 91, α 92, α 87) → u644 ≤ x3 → qr_W (qe L xs vb) (d + 3) qx_e177 (fun r w' => ∃ σ' α', w' = qw σ' α' κ ρ ∧ qI σ' α' κ ρ ∧ qFr [(86, 6), (86, 15)] [87, 91, 92] σ α σ' α' ∧ ∃ v : Int, r = some (.int (qz v)) ∧ ((-2147483648) ≤ v ∧ v ≤ 2147483647) ∧ ((v = -1 ∧ ¬ (0 ≤ x1 ∧ x1 ≤ 5 ∧ 1 ≤ x3 ∧ x3 ≤ 20) ∧ σ' 86 6 = σ 86 6 ∧ (α' 91, α' 92, α' 87) = (α 91, α 92, α 87)) ∨ (v = 0 ∧ (0 ≤ x1 ∧ x1 ≤ 5 ∧ 1 ≤ x3 ∧ x3 ≤ 20) ∧ α 121 (x1 : Int).toNat < 0 ∧ σ' 86 6 = σ 86 6 ∧ (α' 91, α' 92, α' 87) = (α 91, α 92, α 87)) ∨ (v = -12 ∧ (0 ≤ x1 ∧ x1 ≤ 5 ∧ 1 ≤ x3 ∧ x3 ≤ 20) ∧ (0 ≤ α 121 (x1 : Int).toNat ∧ ¬ α 121 (x1 : Int).toNat = 60) ∧ σ' 86 6 = σ 86 6 ∧ (α' 91, α' 92, α' 87) = (α 91, α 92, α 87)) ∨ ((0 ≤ x1 ∧ x1 ≤ 5 ∧ 1 ≤ x3 ∧ x3 ≤ 20) ∧ α 121 (x1 : Int).toNat = 60 ∧ (v, σ' 86 6, (α' 91, α' 92, α' 87)) = qps qstm (α 123) (60 * x1) (α 122 (x1 : Int).toNat) x2 (x3 : Int).toNat 0 (σ 86 6) (α 91, α 92, α 87)))) (69, ls, [], qw σ647 α648 κ ρ, 0, 0) := by
              intro n
              induction n with
              | zero => intro ls u644 u646 σ647 α648 hm g639 g640 g641 g642 g643 g645 hf651 hf652 hI649 hF650 hx653 hx654; exact False.elim (by omega)
              | succ n ih656 =>
                intro ls u644 u646 σ647 α648 hm g639 g640 g641 g642 g643 g645 hf651 hf652 hI649 hF650 hx653 hx654
                have hs657 : 0 ≤ σ647 86 6 ∧ σ647 86 6 ≤ 32 := hI649.1 86 6
                refine qr_iload 71 rfl g645 rfl ?_
                refine qr_if_eq 218 74 rfl rfl rfl (qrg hf652 (by decide) (by decide)) (fun h => False.elim (by omega)) (fun h658 => ?_)
                refine qr_iload 76 rfl g643 rfl ?_
                refine qr_iload_n 77 rfl g642 rfl ?_
                refine qr_icmp_ge 218 80 rfl rfl rfl (qrg hf651 (by decide) (by decide)) r3 (fun h659 => ?_) (fun h659 => ?_)
                · skip
                  refine qr_iload 220 rfl g643 rfl ?_
                  refine qr_retI rfl rfl (by decide) (by decide) ?_
                  exact ⟨_, _, rfl, hI649, hF650, u644, rfl, (qrg hf651 (by decide) (by decide)), (Or.inr (Or.inr (Or.inr ⟨by omega, by omega, (qps_0 (by omega)).symm.trans hx653⟩)))⟩
                · skip
                  have hq660 : α648 122 (x1 : Int).toNat = α 122 (x1 : Int).toNat := congrFun (hF650.2 122 (by decide)) _
                  refine qr_iload_n 81 rfl g641 rfl ?_
                  refine qr_aload_n 82 rfl g639 rfl ?_
                  refine qr_get 85 rfl rfl rfl (by decide) rfl ?_
                  refine qr_iload_n 86 rfl g640 rfl ?_
                  refine qr_iaload 87 rfl rfl (by omega) (by decide) rfl ?_
                  refine qr_topI (fun v661 hv661 => ?_)
                  have hs662 : 0 ≤ v661 ∧ v661 ≤ 60 := by rw [hv661]; exact hI649.2.1 122 _ (show _ < 6 by omega)
                  refine qr_iconst 88 rfl rfl ?_
                  refine qr_isub 89 rfl rfl ?_
                  refine qr_iconst 90 rfl rfl ?_
                  refine qr_iload 92 rfl g643 rfl ?_
                  refine qr_imul 93 rfl rfl ?_
                  refine qr_isub 94 rfl rfl ?_
                  refine qr_icmp_gt 110 97 rfl rfl rfl r2 (by omega) (fun h663 => ?_) (fun h663 => ?_)
                  · skip
                    refine qr_iconst 111 rfl rfl ?_
                    refine qr_istore _ 113 rfl (by decide) rfl rfl ?_
                    refine qr_bipush 115 rfl (by decide) rfl ?_
                    refine qr_iload_n 116 rfl (qm_gk g640 (by decide) (Or.inl (by decide))) rfl ?_
                    refine qr_imul 117 rfl rfl ?_
                    refine qr_iload_n 118 rfl (qm_gk g641 (by decide) (Or.inl (by decide))) rfl ?_
                    refine qr_iadd 119 rfl rfl ?_
                    refine qy_canE (fun v664 hv664 hev664 => ?_)
                    refine qr_iconst 120 rfl rfl ?_
                    refine qr_iload 122 rfl (qm_gk g643 (by decide) (Or.inr rfl)) rfl ?_
                    refine qr_imul 123 rfl rfl ?_
                    refine qr_iadd 124 rfl rfl ?_
                    refine qy_canE (fun v665 hv665 hev665 => ?_)
                    refine qr_istore _ 126 rfl (by decide) rfl rfl ?_
                    refine qr_iload 128 rfl (qm_gk (qm_ge _ _ _) (by decide) (Or.inr rfl)) rfl ?_
                    refine qr_if_eq 170 131 rfl rfl rfl (by decide) (fun h666 => ?_) (fun h => False.elim (by omega))
                    refine qr_iconst 171 rfl rfl ?_
                    refine qr_istore _ 173 rfl (by decide) rfl rfl ?_
                    refine qr_iload 175 rfl (qm_ge _ _ _) rfl ?_
                    refine qr_if_eq 215 178 rfl rfl rfl (by decide) (fun h667 => ?_) (fun h => False.elim (by omega))
                    refine qr_goto 69 rfl rfl ?_
                    refine qr_iload 71 rfl (qm_ge _ _ _) rfl ?_
                    refine qr_if_eq 218 74 rfl rfl rfl (by decide) (fun h668 => ?_) (fun h => False.elim (by omega))
                    refine qr_iload 220 rfl (qm_gk (qm_gk (qm_gk g643 (by decide) (Or.inr rfl)) (by decide) (Or.inl (by decide))) (by decide) (Or.inr rfl)) rfl ?_
                    refine qr_retI rfl rfl (by decide) (by decide) ?_
                    exact ⟨_, _, rfl, hI649, hF650, u644, rfl, (qrg hf651 (by decide) (by decide)), (Or.inr (Or.inr (Or.inr ⟨by omega, by omega, (qps_stop (fun hc => by obtain ⟨h1, h2, h3, h4⟩ := hc; omega)).symm.trans hx653⟩)))⟩
                  · skip
                    refine qr_aload_n 98 rfl g639 rfl ?_
                    refine qr_get 101 rfl rfl rfl (by decide) rfl ?_
                    refine qr_bipush 103 rfl (by decide) rfl ?_
                    refine qr_icmp_ge 110 106 rfl rfl rfl (by omega) (by decide) (fun h669 => ?_) (fun h669 => ?_)
                    · skip
                      refine qr_iconst 111 rfl rfl ?_
                      refine qr_istore _ 113 rfl (by decide) rfl rfl ?_
                      refine qr_bipush 115 rfl (by decide) rfl ?_
                      refine qr_iload_n 116 rfl (qm_gk g640 (by decide) (Or.inl (by decide))) rfl ?_
                      refine qr_imul 117 rfl rfl ?_
                      refine qr_iload_n 118 rfl (qm_gk g641 (by decide) (Or.inl (by decide))) rfl ?_
                      refine qr_iadd 119 rfl rfl ?_
                      refine qr_iconst 120 rfl rfl ?_
                      refine qr_iload 122 rfl (qm_gk g643 (by decide) (Or.inr rfl)) rfl ?_
                      refine qr_imul 123 rfl rfl ?_
                      refine qr_iadd 124 rfl rfl ?_
                      refine qr_istore _ 126 rfl (by decide) rfl rfl ?_
                      refine qr_iload 128 rfl (qm_gk (qm_ge _ _ _) (by decide) (Or.inr rfl)) rfl ?_
                      refine qr_if_eq 170 131 rfl rfl rfl (by decide) (fun h670 => ?_) (fun h => False.elim (by omega))
                      refine qr_iconst 171 rfl rfl ?_
                      refine qr_istore _ 173 rfl (by decide) rfl rfl ?_
                      refine qr_iload 175 rfl (qm_ge _ _ _) rfl ?_
                      refine qr_if_eq 215 178 rfl rfl rfl (by decide) (fun h671 => ?_) (fun h => False.elim (by omega))
                      refine qr_goto 69 rfl rfl ?_
                      refine qr_iload 71 rfl (qm_ge _ _ _) rfl ?_
                      refine qr_if_eq 218 74 rfl rfl rfl (by decide) (fun h672 => ?_) (fun h => False.elim (by omega))
                      refine qr_iload 220 rfl (qm_gk (qm_gk (qm_gk g643 (by decide) (Or.inr rfl)) (by decide) (Or.inl (by decide))) (by decide) (Or.inr rfl)) rfl ?_
                      refine qr_retI rfl rfl (by decide) (by decide) ?_
                      exact ⟨_, _, rfl, hI649, hF650, u644, rfl, (qrg hf651 (by decide) (by decide)), (Or.inr (Or.inr (Or.inr ⟨by omega, by omega, (qps_stop (fun hc => by obtain ⟨h1, h2, h3, h4⟩ := hc; omega)).symm.trans hx653⟩)))⟩
                    · skip
                      refine qr_iconst 107 rfl rfl ?_
                      refine qr_goto 111 rfl rfl ?_
                      refine qr_istore _ 113 rfl (by decide) rfl rfl ?_
                      refine qr_bipush 115 rfl (by decide) rfl ?_
                      refine qr_iload_n 116 rfl (qm_gk g640 (by decide) (Or.inl (by decide))) rfl ?_
                      refine qr_imul 117 rfl rfl ?_
                      refine qr_iload_n 118 rfl (qm_gk g641 (by decide) (Or.inl (by decide))) rfl ?_
                      refine qr_iadd 119 rfl rfl ?_
                      refine qr_iconst 120 rfl rfl ?_
                      refine qr_iload 122 rfl (qm_gk g643 (by decide) (Or.inr rfl)) rfl ?_
                      refine qr_imul 123 rfl rfl ?_
                      refine qr_iadd 124 rfl rfl ?_
                      refine qr_istore _ 126 rfl (by decide) rfl rfl ?_
                      refine qr_iload 128 rfl (qm_gk (qm_ge _ _ _) (by decide) (Or.inr rfl)) rfl ?_
                      refine qr_if_eq 170 131 rfl rfl rfl (by decide) (fun h => False.elim (by omega)) (fun h673 => ?_)
                      refine qr_aload_n 132 rfl (qm_gk (qm_gk g639 (by decide) (Or.inl (by decide))) (by decide) (Or.inl (by decide))) rfl ?_
                      refine qr_aload_n 133 rfl (qm_gk (qm_gk g639 (by decide) (Or.inl (by decide))) (by decide) (Or.inl (by decide))) rfl ?_
                      refine qr_get 136 rfl rfl rfl (by decide) rfl ?_
                      refine qr_iload 138 rfl (qm_ge _ _ _) rfl ?_
                      refine qr_laload 139 rfl (by decide) rfl (by omega) (by decide) rfl ?_
                      refine qr_topL (fun v674 hv674 => ?_)
                      have hs675 : (-9223372036854775808) ≤ v674 ∧ v674 ≤ 9223372036854775807 := by rw [hv674]; exact hI649.2.1 123 _ (show _ < 360 by omega)
                      refine qr_l2i 140 rfl rfl ?_
                      refine qy_canE (fun v676 hv676 hev676 => ?_)
                      refine qr_aload_n 141 rfl (qm_gk (qm_gk g639 (by decide) (Or.inl (by decide))) (by decide) (Or.inl (by decide))) rfl ?_
                      refine qr_get 144 rfl rfl rfl (by decide) rfl ?_
                      refine qr_iload 146 rfl (qm_ge _ _ _) rfl ?_
                      refine qr_iconst 147 rfl rfl ?_
                      refine qr_iadd 148 rfl rfl ?_
                      refine qr_laload 149 rfl (by decide) rfl (by omega) (by decide) rfl ?_
                      refine qr_topL (fun v677 hv677 => ?_)
                      have hs678 : (-9223372036854775808) ≤ v677 ∧ v677 ≤ 9223372036854775807 := by rw [hv677]; exact hI649.2.1 123 _ (show _ < 360 by omega)
                      refine qr_l2i 150 rfl rfl ?_
                      refine qy_canE (fun v679 hv679 hev679 => ?_)
                      refine qr_aload_n 151 rfl (qm_gk (qm_gk g639 (by decide) (Or.inl (by decide))) (by decide) (Or.inl (by decide))) rfl ?_
                      as_aux_lemma =>
                        refine qr_get 154 rfl rfl rfl (by decide) rfl ?_
                        refine qr_iload 156 rfl (qm_ge _ _ _) rfl ?_
                        refine qr_iconst 157 rfl rfl ?_
                        refine qr_iadd 158 rfl rfl ?_
                        refine qr_laload 159 rfl (by decide) rfl (by omega) (by decide) rfl ?_
                        refine qr_topL (fun v680 hv680 => ?_)
                        have hs681 : (-9223372036854775808) ≤ v680 ∧ v680 ≤ 9223372036854775807 := by rw [hv680]; exact hI649.2.1 123 _ (show _ < 360 by omega)
                        refine qr_l2i 160 rfl rfl ?_
                        refine qy_canE (fun v682 hv682 hev682 => ?_)
                        refine qr_callN 163 rfl rfl rfl (sf_175_86 (d := d + 1) hI649 hv676 hv679 hv682) ?_
                        have hs685 : 0 ≤ σ647 86 6 ∧ σ647 86 6 ≤ 32 := hI649.1 86 6
                        rintro _ _ ⟨rfl, v683, rfl, hv683, hp684⟩
                        show qr_W (qe L xs vb) (d + 3) qx_e177 _ (163, _, [.int (qz v683)], qw σ647 α648 κ ρ, 0, 0)
                        have e686 : v676 = qpa (α 123) (60 * x1) (x2 + 3 * u644) := (qna_i hev676 (by omega)).trans (congrArg (fun t : Int => (qz t).toInt) (hv674.trans ((congrFun (hF650.2 123 (by decide)) _).trans (congrArg (fun j : Int => α 123 j.toNat) (by omega)))))
                        have e687 : v679 = qpa (α 123) (60 * x1) (x2 + 3 * u644 + 1) := (qna_i hev679 (by omega)).trans (congrArg (fun t : Int => (qz t).toInt) (hv677.trans ((congrFun (hF650.2 123 (by decide)) _).trans (congrArg (fun j : Int => α 123 j.toNat) (by omega)))))
                        have e688 : v682 = qpa (α 123) (60 * x1) (x2 + 3 * u644 + 2) := (qna_i hev682 (by omega)).trans (congrArg (fun t : Int => (qz t).toInt) (hv680.trans ((congrFun (hF650.2 123 (by decide)) _).trans (congrArg (fun j : Int => α 123 j.toNat) (by omega)))))
                        refine qr_if_eq 170 166 rfl rfl rfl (qrg hv683 (by decide) (by decide)) (fun h689 => ?_) (fun h689 => ?_)
                        · skip
                          refine qr_iconst 171 rfl rfl ?_
                          refine qr_istore _ 173 rfl (by decide) rfl rfl ?_
                          refine qr_iload 175 rfl (qm_ge _ _ _) rfl ?_
                          refine qr_if_eq 215 178 rfl rfl rfl (by decide) (fun h690 => ?_) (fun h => False.elim (by omega))
                          refine qr_goto 69 rfl rfl ?_
                          refine qr_iload 71 rfl (qm_ge _ _ _) rfl ?_
                          refine qr_if_eq 218 74 rfl rfl rfl (by decide) (fun h691 => ?_) (fun h => False.elim (by omega))
                          refine qr_iload 220 rfl (qm_gk (qm_gk (qm_gk g643 (by decide) (Or.inr rfl)) (by decide) (Or.inl (by decide))) (by decide) (Or.inr rfl)) rfl ?_
                          refine qr_retI rfl rfl (by decide) (by decide) ?_
                          exact ⟨_, _, rfl, hI649, hF650, u644, rfl, (qrg hf651 (by decide) (by decide)), (Or.inr (Or.inr (Or.inr ⟨by omega, by omega, (qps_stop (fun hc => by obtain ⟨h1, h2, h3, h4⟩ := hc; unfold qfit at h4; rw [← e686, ← e687, ← e688] at h4; omega)).symm.trans hx653⟩)))⟩
                        · skip
                          refine qr_iconst 167 rfl rfl ?_
                          refine qr_goto 171 rfl rfl ?_
                          refine qr_istore _ 173 rfl (by decide) rfl rfl ?_
                          refine qr_iload 175 rfl (qm_ge _ _ _) rfl ?_
                          refine qr_if_eq 215 178 rfl rfl rfl (by decide) (fun h => False.elim (by omega)) (fun h692 => ?_)
                          refine qr_aload_n 179 rfl (qm_gk (qm_gk (qm_gk g639 (by decide) (Or.inl (by decide))) (by decide) (Or.inl (by decide))) (by decide) (Or.inl (by decide))) rfl ?_
                          refine qr_aload_n 180 rfl (qm_gk (qm_gk (qm_gk g639 (by decide) (Or.inl (by decide))) (by decide) (Or.inl (by decide))) (by decide) (Or.inl (by decide))) rfl ?_
                          refine qr_get 183 rfl rfl rfl (by decide) rfl ?_
                          refine qr_iload 185 rfl (qm_gk (qm_ge _ _ _) (by decide) (Or.inl (by decide))) rfl ?_
                          refine qr_laload 186 rfl (by decide) rfl (by omega) (by decide) rfl ?_
                          refine qr_topL (fun v693 hv693 => ?_)
                          have hs694 : (-9223372036854775808) ≤ v693 ∧ v693 ≤ 9223372036854775807 := by rw [hv693]; exact hI649.2.1 123 _ (show _ < 360 by omega)
                          refine qr_l2i 187 rfl rfl ?_
                          refine qy_canE (fun v695 hv695 hev695 => ?_)
                          refine qr_aload_n 188 rfl (qm_gk (qm_gk (qm_gk g639 (by decide) (Or.inl (by decide))) (by decide) (Or.inl (by decide))) (by decide) (Or.inl (by decide))) rfl ?_
                          refine qr_get 191 rfl rfl rfl (by decide) rfl ?_
                          refine qr_iload 193 rfl (qm_gk (qm_ge _ _ _) (by decide) (Or.inl (by decide))) rfl ?_
                          refine qr_iconst 194 rfl rfl ?_
                          refine qr_iadd 195 rfl rfl ?_
                          refine qr_laload 196 rfl (by decide) rfl (by omega) (by decide) rfl ?_
                          refine qr_topL (fun v696 hv696 => ?_)
                          have hs697 : (-9223372036854775808) ≤ v696 ∧ v696 ≤ 9223372036854775807 := by rw [hv696]; exact hI649.2.1 123 _ (show _ < 360 by omega)
                          refine qr_l2i 197 rfl rfl ?_
                          refine qy_canE (fun v698 hv698 hev698 => ?_)
                          refine qr_aload_n 198 rfl (qm_gk (qm_gk (qm_gk g639 (by decide) (Or.inl (by decide))) (by decide) (Or.inl (by decide))) (by decide) (Or.inl (by decide))) rfl ?_
                          refine qr_get 201 rfl rfl rfl (by decide) rfl ?_
                          refine qr_iload 203 rfl (qm_gk (qm_ge _ _ _) (by decide) (Or.inl (by decide))) rfl ?_
                          refine qr_iconst 204 rfl rfl ?_
                          refine qr_iadd 205 rfl rfl ?_
                          refine qr_laload 206 rfl (by decide) rfl (by omega) (by decide) rfl ?_
                          refine qr_topL (fun v699 hv699 => ?_)
                          have hs700 : (-9223372036854775808) ≤ v699 ∧ v699 ≤ 9223372036854775807 := by rw [hv699]; exact hI649.2.1 123 _ (show _ < 360 by omega)
                          refine qr_l2i 207 rfl rfl ?_
                          refine qy_canE (fun v701 hv701 hev701 => ?_)
                          have e702 : v695 = qpa (α 123) (60 * x1) (x2 + 3 * u644) := (qna_i hev695 (by omega)).trans (congrArg (fun t : Int => (qz t).toInt) (hv693.trans ((congrFun (hF650.2 123 (by decide)) _).trans (congrArg (fun j : Int => α 123 j.toNat) (by omega)))))
                          have e703 : v698 = qpa (α 123) (60 * x1) (x2 + 3 * u644 + 1) := (qna_i hev698 (by omega)).trans (congrArg (fun t : Int => (qz t).toInt) (hv696.trans ((congrFun (hF650.2 123 (by decide)) _).trans (congrArg (fun j : Int => α 123 j.toNat) (by omega)))))
                          have e704 : v701 = qpa (α 123) (60 * x1) (x2 + 3 * u644 + 2) := (qna_i hev701 (by omega)).trans (congrArg (fun t : Int => (qz t).toInt) (hv699.trans ((congrFun (hF650.2 123 (by decide)) _).trans (congrArg (fun j : Int => α 123 j.toNat) (by omega)))))
                          have hs705 : 0 ≤ σ647 86 6 ∧ σ647 86 6 ≤ 32 := hI649.1 86 6
                          have hs706 := e686.trans e702.symm
                          have hs707 := e687.trans e703.symm
                          have hs708 := e688.trans e704.symm
                          refine qr_callN 210 rfl rfl rfl (sf_174_86z (d := d + 0) hI649 hv695 hv698 hv701) ?_
                          rintro _ _ ⟨σ711, α712, rfl, hI713, hG714, v709, rfl, hv709, hx710⟩
                          have hF715 : qFr [(86, 6), (86, 15)] [87, 91, 92] σ α σ711 α712 := qFr_t hF650 hG714 (by decide) (by decide)
                          show qr_W (qe L xs vb) (d + 3) qx_e177 _ (210, _, [.int (qz v709)], qw σ711 α712 κ ρ, 0, 0)
                          have hb716 : σ711 86 6 = σ647 86 6 + 1 ∧ (α712 91, α712 92, α712 87) = qstm (α648 91, α648 92, α648 87) (σ647 86 6) v695 v698 v701 := by
                            rcases hx710 with ⟨a1, a2, a3, a4⟩ | ⟨a1, a2, a3, a4, a5⟩ | ⟨a1, a2, a3, a4, a5⟩
                            · exact absurd (show ((v695 = -1 ∨ (0 ≤ v695 ∧ v695 < σ647 86 6)) ∧ 1 ≤ v698 ∧ v698 ≤ 99 ∧ (v701 = 0 ∨ v701 = 1)) by omega) a2
                            · exact absurd a3 (by omega)
                            · exact ⟨a4, a5⟩
                          refine qr_istore _ 212 rfl (by decide) rfl rfl ?_
                          refine qr_iinc _ 215 rfl (qm_gk (qm_gk (qm_gk (qm_gk g643 (by decide) (Or.inr rfl)) (by decide) (Or.inl (by decide))) (by decide) (Or.inr rfl)) (by decide) (Or.inl (by decide))) (by decide) rfl rfl ?_
                          refine qr_goto 69 rfl rfl ?_
                          exact ih656 _ (u644 + 1) 1 σ711 α712 (by omega) (qm_gk (qm_gk (qm_gk (qm_gk (qm_gk g639 (by decide) (Or.inl (by decide))) (by decide) (Or.inl (by decide))) (by decide) (Or.inl (by decide))) (by decide) (Or.inl (by decide))) (by decide) (Or.inl (by decide))) (qm_gk (qm_gk (qm_gk (qm_gk (qm_gk g640 (by decide) (Or.inl (by decide))) (by decide) (Or.inl (by decide))) (by decide) (Or.inl (by decide))) (by decide) (Or.inl (by decide))) (by decide) (Or.inl (by decide))) (qm_gk (qm_gk (qm_gk (qm_gk (qm_gk g641 (by decide) (Or.inl (by decide))) (by decide) (Or.inl (by decide))) (by decide) (Or.inl (by decide))) (by decide) (Or.inl (by decide))) (by decide) (Or.inl (by decide))) (qm_gk (qm_gk (qm_gk (qm_gk (qm_gk g642 (by decide) (Or.inl (by decide))) (by decide) (Or.inl (by decide))) (by decide) (Or.inl (by decide))) (by decide) (Or.inl (by decide))) (by decide) (Or.inr rfl)) (qm_ge _ _ _) (qm_gk (qm_gk (qm_ge _ _ _) (by decide) (Or.inl (by decide))) (by decide) (Or.inl (by decide))) (by omega) (by decide) hI713 hF715 (by rw [hb716.2, hb716.1, e702, e703, e704]; exact (qps_go (m := (x3 - (u644 + 1) : Int).toNat) (⟨by omega, by omega, by omega, by unfold qfit; rw [← e686, ← e687, ← e688]; omega⟩) (by omega)).symm.trans hx653) (by omega)
            exact hL655 ((20 - 0 + 1 : Int)).toNat _ 0 1 σ α (by omega) rfl rfl rfl rfl rfl rfl (by decide) (by decide) hI hF0 (by rw [show (x3 - 0 : Int).toNat = (x3 : Int).toNat by omega]) (by omega)
      · skip
        refine qr_aload_n 31 rfl rfl rfl ?_
        refine qr_get 34 rfl rfl rfl (by decide) rfl ?_
        refine qr_iload_n 35 rfl rfl rfl ?_
        refine qr_iaload 36 rfl rfl (by omega) (by decide) rfl ?_
        refine qr_topI (fun v717 hv717 => ?_)
        have hs718 : (-1) ≤ v717 ∧ v717 ≤ 64 := by rw [hv717]; exact hI.2.1 121 _ (show _ < 6 by omega)
        refine qr_bipush 38 rfl (by decide) rfl ?_
        refine qr_icmp_eq 44 41 rfl rfl rfl (qrg hs718 (by decide) (by decide)) (by decide) (fun h719 => ?_) (fun h719 => ?_)
        · skip
          refine qr_iconst 45 rfl rfl ?_
          refine qr_istore _ 47 rfl (by decide) rfl rfl ?_
          refine qr_aload_n 48 rfl rfl rfl ?_
          refine qr_get 51 rfl rfl rfl (by decide) rfl ?_
          refine qr_iload_n 52 rfl rfl rfl ?_
          refine qr_iaload 53 rfl rfl (by omega) (by decide) rfl ?_
          refine qr_topI (fun v720 hv720 => ?_)
          have hs721 : (-1) ≤ v720 ∧ v720 ≤ 64 := by rw [hv720]; exact hI.2.1 121 _ (show _ < 6 by omega)
          refine qr_bipush 55 rfl (by decide) rfl ?_
          refine qr_icmp_ne 66 58 rfl rfl rfl (qrg hs721 (by decide) (by decide)) (by decide) (fun h722 => ?_) (fun h722 => ?_)
          · skip
            refine qr_iconst 67 rfl rfl ?_
            refine qr_istore _ 69 rfl (by decide) rfl rfl ?_
            refine qr_iload 71 rfl rfl rfl ?_
            refine qr_if_eq 218 74 rfl rfl rfl (by decide) (fun h723 => ?_) (fun h => False.elim (by omega))
            refine qr_iload 220 rfl rfl rfl ?_
            refine qr_retI rfl rfl (by decide) (by decide) ?_
            exact ⟨_, _, rfl, hI, hF0, 0, rfl, (by decide), (Or.inr (Or.inl ⟨rfl, by omega, by omega, rfl, rfl⟩))⟩
          · skip
            refine qr_iload_n 59 rfl rfl rfl ?_
            refine qr_if_lt 66 62 rfl rfl rfl r2 (fun h724 => ?_) (fun h724 => ?_)
            · skip
              refine qr_iconst 67 rfl rfl ?_
              refine qr_istore _ 69 rfl (by decide) rfl rfl ?_
              refine qr_iload 71 rfl rfl rfl ?_
              refine qr_if_eq 218 74 rfl rfl rfl (by decide) (fun h725 => ?_) (fun h => False.elim (by omega))
              refine qr_iload 220 rfl rfl rfl ?_
              refine qr_retI rfl rfl (by decide) (by decide) ?_
              exact ⟨_, _, rfl, hI, hF0, 0, rfl, (by decide), (Or.inr (Or.inr (Or.inr ⟨by omega, by omega, (qps_stop (fun hc => by obtain ⟨h1, h2, h3, h4⟩ := hc; omega)).symm⟩)))⟩
            · skip
              refine qr_iconst 63 rfl rfl ?_
              refine qr_goto 67 rfl rfl ?_
              refine qr_istore _ 69 rfl (by decide) rfl rfl ?_
              have hL1365 : ∀ (n : Nat) (ls : qm_L) (u1354 u1356 : Int) (σ1357 α1358 : Nat → Nat → Int), 20 - u1354 < (n : Int) → qm_get ls 0 = some (.ref 86) → qm_get ls 1 = some (.int (qz x1)) → qm_get ls 2 = some (.int (qz x2)) → qm_get ls 3 = some (.int (qz x3)) → qm_get ls 4 = some (.int (qz u1354)) → qm_get ls 5 = some (.int (qz u1356)) → (0 ≤ u1354 ∧ u1354 ≤ 20) → (1 ≤ u1356 ∧ u1356 ≤ 1) → qI σ1357 α1358 κ ρ → qFr [(86, 6), (86, 15)] [87, 91, 92] σ α σ1357 α1358 → qps qstm (α 123) (60 * x1) (α 122 (x1 : Int).toNat) x2 (x3 - u1354 : Int).toNat u1354 (σ1357 86 6) (α1358 91, α1358 92, α1358 87) = qps qstm (α 123) (60 * x1) (α 122 (x1 : Int).toNat) x2 (x3 : Int).toNat 0 (σ 86 6) (α 91, α 92, α 87) → u1354 ≤ x3 → qr_W (qe L xs vb) (d + 3) qx_e177 (fun r w' => ∃ σ' α', w' = qw σ' α' κ ρ ∧ qI σ' α' κ ρ ∧ qFr [(86, 6), (86, 15)] [87, 91, 92] σ α σ' α' ∧ ∃ v : Int, r = some (.int (qz v)) ∧ ((-2147483648) ≤ v ∧ v ≤ 2147483647) ∧ ((v = -1 ∧ ¬ (0 ≤ x1 ∧ x1 ≤ 5 ∧ 1 ≤ x3 ∧ x3 ≤ 20) ∧ σ' 86 6 = σ 86 6 ∧ (α' 91, α' 92, α' 87) = (α 91, α 92, α 87)) ∨ (v = 0 ∧ (0 ≤ x1 ∧ x1 ≤ 5 ∧ 1 ≤ x3 ∧ x3 ≤ 20) ∧ α 121 (x1 : Int).toNat < 0 ∧ σ' 86 6 = σ 86 6 ∧ (α' 91, α' 92, α' 87) = (α 91, α 92, α 87)) ∨ (v = -12 ∧ (0 ≤ x1 ∧ x1 ≤ 5 ∧ 1 ≤ x3 ∧ x3 ≤ 20) ∧ (0 ≤ α 121 (x1 : Int).toNat ∧ ¬ α 121 (x1 : Int).toNat = 60) ∧ σ' 86 6 = σ 86 6 ∧ (α' 91, α' 92, α' 87) = (α 91, α 92, α 87)) ∨ ((0 ≤ x1 ∧ x1 ≤ 5 ∧ 1 ≤ x3 ∧ x3 ≤ 20) ∧ α 121 (x1 : Int).toNat = 60 ∧ (v, σ' 86 6, (α' 91, α' 92, α' 87)) = qps qstm (α 123) (60 * x1) (α 122 (x1 : Int).toNat) x2 (x3 : Int).toNat 0 (σ 86 6) (α 91, α 92, α 87)))) (69, ls, [], qw σ1357 α1358 κ ρ, 0, 0) := by
                intro n
                induction n with
                | zero => intro ls u1354 u1356 σ1357 α1358 hm g1349 g1350 g1351 g1352 g1353 g1355 hf1361 hf1362 hI1359 hF1360 hx1363 hx1364; exact False.elim (by omega)
                | succ n ih1366 =>
                  intro ls u1354 u1356 σ1357 α1358 hm g1349 g1350 g1351 g1352 g1353 g1355 hf1361 hf1362 hI1359 hF1360 hx1363 hx1364
                  have hs1367 : 0 ≤ σ1357 86 6 ∧ σ1357 86 6 ≤ 32 := hI1359.1 86 6
                  refine qr_iload 71 rfl g1355 rfl ?_
                  refine qr_if_eq 218 74 rfl rfl rfl (qrg hf1362 (by decide) (by decide)) (fun h => False.elim (by omega)) (fun h1368 => ?_)
                  refine qr_iload 76 rfl g1353 rfl ?_
                  refine qr_iload_n 77 rfl g1352 rfl ?_
                  refine qr_icmp_ge 218 80 rfl rfl rfl (qrg hf1361 (by decide) (by decide)) r3 (fun h1369 => ?_) (fun h1369 => ?_)
                  · skip
                    refine qr_iload 220 rfl g1353 rfl ?_
                    refine qr_retI rfl rfl (by decide) (by decide) ?_
                    exact ⟨_, _, rfl, hI1359, hF1360, u1354, rfl, (qrg hf1361 (by decide) (by decide)), (Or.inr (Or.inr (Or.inr ⟨by omega, by omega, (qps_0 (by omega)).symm.trans hx1363⟩)))⟩
                  · skip
                    have hq1370 : α1358 122 (x1 : Int).toNat = α 122 (x1 : Int).toNat := congrFun (hF1360.2 122 (by decide)) _
                    refine qr_iload_n 81 rfl g1351 rfl ?_
                    refine qr_aload_n 82 rfl g1349 rfl ?_
                    refine qr_get 85 rfl rfl rfl (by decide) rfl ?_
                    refine qr_iload_n 86 rfl g1350 rfl ?_
                    refine qr_iaload 87 rfl rfl (by omega) (by decide) rfl ?_
                    refine qr_topI (fun v1371 hv1371 => ?_)
                    have hs1372 : 0 ≤ v1371 ∧ v1371 ≤ 60 := by rw [hv1371]; exact hI1359.2.1 122 _ (show _ < 6 by omega)
                    refine qr_iconst 88 rfl rfl ?_
                    refine qr_isub 89 rfl rfl ?_
                    refine qr_iconst 90 rfl rfl ?_
                    refine qr_iload 92 rfl g1353 rfl ?_
                    refine qr_imul 93 rfl rfl ?_
                    refine qr_isub 94 rfl rfl ?_
                    refine qr_icmp_gt 110 97 rfl rfl rfl r2 (by omega) (fun h1373 => ?_) (fun h1373 => ?_)
                    · skip
                      refine qr_iconst 111 rfl rfl ?_
                      refine qr_istore _ 113 rfl (by decide) rfl rfl ?_
                      refine qr_bipush 115 rfl (by decide) rfl ?_
                      refine qr_iload_n 116 rfl (qm_gk g1350 (by decide) (Or.inl (by decide))) rfl ?_
                      refine qr_imul 117 rfl rfl ?_
                      refine qr_iload_n 118 rfl (qm_gk g1351 (by decide) (Or.inl (by decide))) rfl ?_
                      refine qr_iadd 119 rfl rfl ?_
                      refine qy_canE (fun v1374 hv1374 hev1374 => ?_)
                      refine qr_iconst 120 rfl rfl ?_
                      refine qr_iload 122 rfl (qm_gk g1353 (by decide) (Or.inr rfl)) rfl ?_
                      refine qr_imul 123 rfl rfl ?_
                      refine qr_iadd 124 rfl rfl ?_
                      refine qy_canE (fun v1375 hv1375 hev1375 => ?_)
                      refine qr_istore _ 126 rfl (by decide) rfl rfl ?_
                      refine qr_iload 128 rfl (qm_gk (qm_ge _ _ _) (by decide) (Or.inr rfl)) rfl ?_
                      refine qr_if_eq 170 131 rfl rfl rfl (by decide) (fun h1376 => ?_) (fun h => False.elim (by omega))
                      refine qr_iconst 171 rfl rfl ?_
                      refine qr_istore _ 173 rfl (by decide) rfl rfl ?_
                      refine qr_iload 175 rfl (qm_ge _ _ _) rfl ?_
                      refine qr_if_eq 215 178 rfl rfl rfl (by decide) (fun h1377 => ?_) (fun h => False.elim (by omega))
                      refine qr_goto 69 rfl rfl ?_
                      refine qr_iload 71 rfl (qm_ge _ _ _) rfl ?_
                      refine qr_if_eq 218 74 rfl rfl rfl (by decide) (fun h1378 => ?_) (fun h => False.elim (by omega))
                      refine qr_iload 220 rfl (qm_gk (qm_gk (qm_gk g1353 (by decide) (Or.inr rfl)) (by decide) (Or.inl (by decide))) (by decide) (Or.inr rfl)) rfl ?_
                      refine qr_retI rfl rfl (by decide) (by decide) ?_
                      exact ⟨_, _, rfl, hI1359, hF1360, u1354, rfl, (qrg hf1361 (by decide) (by decide)), (Or.inr (Or.inr (Or.inr ⟨by omega, by omega, (qps_stop (fun hc => by obtain ⟨h1, h2, h3, h4⟩ := hc; omega)).symm.trans hx1363⟩)))⟩
                    · skip
                      refine qr_aload_n 98 rfl g1349 rfl ?_
                      refine qr_get 101 rfl rfl rfl (by decide) rfl ?_
                      refine qr_bipush 103 rfl (by decide) rfl ?_
                      refine qr_icmp_ge 110 106 rfl rfl rfl (by omega) (by decide) (fun h1379 => ?_) (fun h1379 => ?_)
                      · skip
                        refine qr_iconst 111 rfl rfl ?_
                        refine qr_istore _ 113 rfl (by decide) rfl rfl ?_
                        refine qr_bipush 115 rfl (by decide) rfl ?_
                        refine qr_iload_n 116 rfl (qm_gk g1350 (by decide) (Or.inl (by decide))) rfl ?_
                        refine qr_imul 117 rfl rfl ?_
                        refine qr_iload_n 118 rfl (qm_gk g1351 (by decide) (Or.inl (by decide))) rfl ?_
                        refine qr_iadd 119 rfl rfl ?_
                        refine qr_iconst 120 rfl rfl ?_
                        refine qr_iload 122 rfl (qm_gk g1353 (by decide) (Or.inr rfl)) rfl ?_
                        refine qr_imul 123 rfl rfl ?_
                        refine qr_iadd 124 rfl rfl ?_
                        refine qr_istore _ 126 rfl (by decide) rfl rfl ?_
                        refine qr_iload 128 rfl (qm_gk (qm_ge _ _ _) (by decide) (Or.inr rfl)) rfl ?_
                        refine qr_if_eq 170 131 rfl rfl rfl (by decide) (fun h1380 => ?_) (fun h => False.elim (by omega))
                        refine qr_iconst 171 rfl rfl ?_
                        refine qr_istore _ 173 rfl (by decide) rfl rfl ?_
                        refine qr_iload 175 rfl (qm_ge _ _ _) rfl ?_
                        refine qr_if_eq 215 178 rfl rfl rfl (by decide) (fun h1381 => ?_) (fun h => False.elim (by omega))
                        refine qr_goto 69 rfl rfl ?_
                        refine qr_iload 71 rfl (qm_ge _ _ _) rfl ?_
                        refine qr_if_eq 218 74 rfl rfl rfl (by decide) (fun h1382 => ?_) (fun h => False.elim (by omega))
                        refine qr_iload 220 rfl (qm_gk (qm_gk (qm_gk g1353 (by decide) (Or.inr rfl)) (by decide) (Or.inl (by decide))) (by decide) (Or.inr rfl)) rfl ?_
                        refine qr_retI rfl rfl (by decide) (by decide) ?_
                        exact ⟨_, _, rfl, hI1359, hF1360, u1354, rfl, (qrg hf1361 (by decide) (by decide)), (Or.inr (Or.inr (Or.inr ⟨by omega, by omega, (qps_stop (fun hc => by obtain ⟨h1, h2, h3, h4⟩ := hc; omega)).symm.trans hx1363⟩)))⟩
                      · skip
                        refine qr_iconst 107 rfl rfl ?_
                        refine qr_goto 111 rfl rfl ?_
                        refine qr_istore _ 113 rfl (by decide) rfl rfl ?_
                        refine qr_bipush 115 rfl (by decide) rfl ?_
                        refine qr_iload_n 116 rfl (qm_gk g1350 (by decide) (Or.inl (by decide))) rfl ?_
                        refine qr_imul 117 rfl rfl ?_
                        refine qr_iload_n 118 rfl (qm_gk g1351 (by decide) (Or.inl (by decide))) rfl ?_
                        refine qr_iadd 119 rfl rfl ?_
                        refine qr_iconst 120 rfl rfl ?_
                        refine qr_iload 122 rfl (qm_gk g1353 (by decide) (Or.inr rfl)) rfl ?_
                        refine qr_imul 123 rfl rfl ?_
                        refine qr_iadd 124 rfl rfl ?_
                        refine qr_istore _ 126 rfl (by decide) rfl rfl ?_
                        refine qr_iload 128 rfl (qm_gk (qm_ge _ _ _) (by decide) (Or.inr rfl)) rfl ?_
                        refine qr_if_eq 170 131 rfl rfl rfl (by decide) (fun h => False.elim (by omega)) (fun h1383 => ?_)
                        refine qr_aload_n 132 rfl (qm_gk (qm_gk g1349 (by decide) (Or.inl (by decide))) (by decide) (Or.inl (by decide))) rfl ?_
                        refine qr_aload_n 133 rfl (qm_gk (qm_gk g1349 (by decide) (Or.inl (by decide))) (by decide) (Or.inl (by decide))) rfl ?_
                        refine qr_get 136 rfl rfl rfl (by decide) rfl ?_
                        refine qr_iload 138 rfl (qm_ge _ _ _) rfl ?_
                        refine qr_laload 139 rfl (by decide) rfl (by omega) (by decide) rfl ?_
                        refine qr_topL (fun v1384 hv1384 => ?_)
                        have hs1385 : (-9223372036854775808) ≤ v1384 ∧ v1384 ≤ 9223372036854775807 := by rw [hv1384]; exact hI1359.2.1 123 _ (show _ < 360 by omega)
                        refine qr_l2i 140 rfl rfl ?_
                        refine qy_canE (fun v1386 hv1386 hev1386 => ?_)
                        refine qr_aload_n 141 rfl (qm_gk (qm_gk g1349 (by decide) (Or.inl (by decide))) (by decide) (Or.inl (by decide))) rfl ?_
                        refine qr_get 144 rfl rfl rfl (by decide) rfl ?_
                        refine qr_iload 146 rfl (qm_ge _ _ _) rfl ?_
                        refine qr_iconst 147 rfl rfl ?_
                        refine qr_iadd 148 rfl rfl ?_
                        refine qr_laload 149 rfl (by decide) rfl (by omega) (by decide) rfl ?_
                        refine qr_topL (fun v1387 hv1387 => ?_)
                        have hs1388 : (-9223372036854775808) ≤ v1387 ∧ v1387 ≤ 9223372036854775807 := by rw [hv1387]; exact hI1359.2.1 123 _ (show _ < 360 by omega)
                        refine qr_l2i 150 rfl rfl ?_
                        refine qy_canE (fun v1389 hv1389 hev1389 => ?_)
                        refine qr_aload_n 151 rfl (qm_gk (qm_gk g1349 (by decide) (Or.inl (by decide))) (by decide) (Or.inl (by decide))) rfl ?_
                        as_aux_lemma =>
                          refine qr_get 154 rfl rfl rfl (by decide) rfl ?_
                          refine qr_iload 156 rfl (qm_ge _ _ _) rfl ?_
                          refine qr_iconst 157 rfl rfl ?_
                          refine qr_iadd 158 rfl rfl ?_
                          refine qr_laload 159 rfl (by decide) rfl (by omega) (by decide) rfl ?_
                          refine qr_topL (fun v1390 hv1390 => ?_)
                          have hs1391 : (-9223372036854775808) ≤ v1390 ∧ v1390 ≤ 9223372036854775807 := by rw [hv1390]; exact hI1359.2.1 123 _ (show _ < 360 by omega)
                          refine qr_l2i 160 rfl rfl ?_
                          refine qy_canE (fun v1392 hv1392 hev1392 => ?_)
                          refine qr_callN 163 rfl rfl rfl (sf_175_86 (d := d + 1) hI1359 hv1386 hv1389 hv1392) ?_
                          have hs1395 : 0 ≤ σ1357 86 6 ∧ σ1357 86 6 ≤ 32 := hI1359.1 86 6
                          rintro _ _ ⟨rfl, v1393, rfl, hv1393, hp1394⟩
                          show qr_W (qe L xs vb) (d + 3) qx_e177 _ (163, _, [.int (qz v1393)], qw σ1357 α1358 κ ρ, 0, 0)
                          have e1396 : v1386 = qpa (α 123) (60 * x1) (x2 + 3 * u1354) := (qna_i hev1386 (by omega)).trans (congrArg (fun t : Int => (qz t).toInt) (hv1384.trans ((congrFun (hF1360.2 123 (by decide)) _).trans (congrArg (fun j : Int => α 123 j.toNat) (by omega)))))
                          have e1397 : v1389 = qpa (α 123) (60 * x1) (x2 + 3 * u1354 + 1) := (qna_i hev1389 (by omega)).trans (congrArg (fun t : Int => (qz t).toInt) (hv1387.trans ((congrFun (hF1360.2 123 (by decide)) _).trans (congrArg (fun j : Int => α 123 j.toNat) (by omega)))))
                          have e1398 : v1392 = qpa (α 123) (60 * x1) (x2 + 3 * u1354 + 2) := (qna_i hev1392 (by omega)).trans (congrArg (fun t : Int => (qz t).toInt) (hv1390.trans ((congrFun (hF1360.2 123 (by decide)) _).trans (congrArg (fun j : Int => α 123 j.toNat) (by omega)))))
                          refine qr_if_eq 170 166 rfl rfl rfl (qrg hv1393 (by decide) (by decide)) (fun h1399 => ?_) (fun h1399 => ?_)
                          · skip
                            refine qr_iconst 171 rfl rfl ?_
                            refine qr_istore _ 173 rfl (by decide) rfl rfl ?_
                            refine qr_iload 175 rfl (qm_ge _ _ _) rfl ?_
                            refine qr_if_eq 215 178 rfl rfl rfl (by decide) (fun h1400 => ?_) (fun h => False.elim (by omega))
                            refine qr_goto 69 rfl rfl ?_
                            refine qr_iload 71 rfl (qm_ge _ _ _) rfl ?_
                            refine qr_if_eq 218 74 rfl rfl rfl (by decide) (fun h1401 => ?_) (fun h => False.elim (by omega))
                            refine qr_iload 220 rfl (qm_gk (qm_gk (qm_gk g1353 (by decide) (Or.inr rfl)) (by decide) (Or.inl (by decide))) (by decide) (Or.inr rfl)) rfl ?_
                            refine qr_retI rfl rfl (by decide) (by decide) ?_
                            exact ⟨_, _, rfl, hI1359, hF1360, u1354, rfl, (qrg hf1361 (by decide) (by decide)), (Or.inr (Or.inr (Or.inr ⟨by omega, by omega, (qps_stop (fun hc => by obtain ⟨h1, h2, h3, h4⟩ := hc; unfold qfit at h4; rw [← e1396, ← e1397, ← e1398] at h4; omega)).symm.trans hx1363⟩)))⟩
                          · skip
                            refine qr_iconst 167 rfl rfl ?_
                            refine qr_goto 171 rfl rfl ?_
                            refine qr_istore _ 173 rfl (by decide) rfl rfl ?_
                            refine qr_iload 175 rfl (qm_ge _ _ _) rfl ?_
                            refine qr_if_eq 215 178 rfl rfl rfl (by decide) (fun h => False.elim (by omega)) (fun h1402 => ?_)
                            refine qr_aload_n 179 rfl (qm_gk (qm_gk (qm_gk g1349 (by decide) (Or.inl (by decide))) (by decide) (Or.inl (by decide))) (by decide) (Or.inl (by decide))) rfl ?_
                            refine qr_aload_n 180 rfl (qm_gk (qm_gk (qm_gk g1349 (by decide) (Or.inl (by decide))) (by decide) (Or.inl (by decide))) (by decide) (Or.inl (by decide))) rfl ?_
                            refine qr_get 183 rfl rfl rfl (by decide) rfl ?_
                            refine qr_iload 185 rfl (qm_gk (qm_ge _ _ _) (by decide) (Or.inl (by decide))) rfl ?_
                            refine qr_laload 186 rfl (by decide) rfl (by omega) (by decide) rfl ?_
                            refine qr_topL (fun v1403 hv1403 => ?_)
                            have hs1404 : (-9223372036854775808) ≤ v1403 ∧ v1403 ≤ 9223372036854775807 := by rw [hv1403]; exact hI1359.2.1 123 _ (show _ < 360 by omega)
                            refine qr_l2i 187 rfl rfl ?_
                            refine qy_canE (fun v1405 hv1405 hev1405 => ?_)
                            refine qr_aload_n 188 rfl (qm_gk (qm_gk (qm_gk g1349 (by decide) (Or.inl (by decide))) (by decide) (Or.inl (by decide))) (by decide) (Or.inl (by decide))) rfl ?_
                            refine qr_get 191 rfl rfl rfl (by decide) rfl ?_
                            refine qr_iload 193 rfl (qm_gk (qm_ge _ _ _) (by decide) (Or.inl (by decide))) rfl ?_
                            refine qr_iconst 194 rfl rfl ?_
                            refine qr_iadd 195 rfl rfl ?_
                            refine qr_laload 196 rfl (by decide) rfl (by omega) (by decide) rfl ?_
                            refine qr_topL (fun v1406 hv1406 => ?_)
                            have hs1407 : (-9223372036854775808) ≤ v1406 ∧ v1406 ≤ 9223372036854775807 := by rw [hv1406]; exact hI1359.2.1 123 _ (show _ < 360 by omega)
                            refine qr_l2i 197 rfl rfl ?_
                            refine qy_canE (fun v1408 hv1408 hev1408 => ?_)
                            refine qr_aload_n 198 rfl (qm_gk (qm_gk (qm_gk g1349 (by decide) (Or.inl (by decide))) (by decide) (Or.inl (by decide))) (by decide) (Or.inl (by decide))) rfl ?_
                            refine qr_get 201 rfl rfl rfl (by decide) rfl ?_
                            refine qr_iload 203 rfl (qm_gk (qm_ge _ _ _) (by decide) (Or.inl (by decide))) rfl ?_
                            refine qr_iconst 204 rfl rfl ?_
                            refine qr_iadd 205 rfl rfl ?_
                            refine qr_laload 206 rfl (by decide) rfl (by omega) (by decide) rfl ?_
                            refine qr_topL (fun v1409 hv1409 => ?_)
                            have hs1410 : (-9223372036854775808) ≤ v1409 ∧ v1409 ≤ 9223372036854775807 := by rw [hv1409]; exact hI1359.2.1 123 _ (show _ < 360 by omega)
                            refine qr_l2i 207 rfl rfl ?_
                            refine qy_canE (fun v1411 hv1411 hev1411 => ?_)
                            have e1412 : v1405 = qpa (α 123) (60 * x1) (x2 + 3 * u1354) := (qna_i hev1405 (by omega)).trans (congrArg (fun t : Int => (qz t).toInt) (hv1403.trans ((congrFun (hF1360.2 123 (by decide)) _).trans (congrArg (fun j : Int => α 123 j.toNat) (by omega)))))
                            have e1413 : v1408 = qpa (α 123) (60 * x1) (x2 + 3 * u1354 + 1) := (qna_i hev1408 (by omega)).trans (congrArg (fun t : Int => (qz t).toInt) (hv1406.trans ((congrFun (hF1360.2 123 (by decide)) _).trans (congrArg (fun j : Int => α 123 j.toNat) (by omega)))))
                            have e1414 : v1411 = qpa (α 123) (60 * x1) (x2 + 3 * u1354 + 2) := (qna_i hev1411 (by omega)).trans (congrArg (fun t : Int => (qz t).toInt) (hv1409.trans ((congrFun (hF1360.2 123 (by decide)) _).trans (congrArg (fun j : Int => α 123 j.toNat) (by omega)))))
                            have hs1415 : 0 ≤ σ1357 86 6 ∧ σ1357 86 6 ≤ 32 := hI1359.1 86 6
                            have hs1416 := e1396.trans e1412.symm
                            have hs1417 := e1397.trans e1413.symm
                            have hs1418 := e1398.trans e1414.symm
                            refine qr_callN 210 rfl rfl rfl (sf_174_86z (d := d + 0) hI1359 hv1405 hv1408 hv1411) ?_
                            rintro _ _ ⟨σ1421, α1422, rfl, hI1423, hG1424, v1419, rfl, hv1419, hx1420⟩
                            have hF1425 : qFr [(86, 6), (86, 15)] [87, 91, 92] σ α σ1421 α1422 := qFr_t hF1360 hG1424 (by decide) (by decide)
                            show qr_W (qe L xs vb) (d + 3) qx_e177 _ (210, _, [.int (qz v1419)], qw σ1421 α1422 κ ρ, 0, 0)
                            have hb1426 : σ1421 86 6 = σ1357 86 6 + 1 ∧ (α1422 91, α1422 92, α1422 87) = qstm (α1358 91, α1358 92, α1358 87) (σ1357 86 6) v1405 v1408 v1411 := by
                              rcases hx1420 with ⟨a1, a2, a3, a4⟩ | ⟨a1, a2, a3, a4, a5⟩ | ⟨a1, a2, a3, a4, a5⟩
                              · exact absurd (show ((v1405 = -1 ∨ (0 ≤ v1405 ∧ v1405 < σ1357 86 6)) ∧ 1 ≤ v1408 ∧ v1408 ≤ 99 ∧ (v1411 = 0 ∨ v1411 = 1)) by omega) a2
                              · exact absurd a3 (by omega)
                              · exact ⟨a4, a5⟩
                            refine qr_istore _ 212 rfl (by decide) rfl rfl ?_
                            refine qr_iinc _ 215 rfl (qm_gk (qm_gk (qm_gk (qm_gk g1353 (by decide) (Or.inr rfl)) (by decide) (Or.inl (by decide))) (by decide) (Or.inr rfl)) (by decide) (Or.inl (by decide))) (by decide) rfl rfl ?_
                            refine qr_goto 69 rfl rfl ?_
                            exact ih1366 _ (u1354 + 1) 1 σ1421 α1422 (by omega) (qm_gk (qm_gk (qm_gk (qm_gk (qm_gk g1349 (by decide) (Or.inl (by decide))) (by decide) (Or.inl (by decide))) (by decide) (Or.inl (by decide))) (by decide) (Or.inl (by decide))) (by decide) (Or.inl (by decide))) (qm_gk (qm_gk (qm_gk (qm_gk (qm_gk g1350 (by decide) (Or.inl (by decide))) (by decide) (Or.inl (by decide))) (by decide) (Or.inl (by decide))) (by decide) (Or.inl (by decide))) (by decide) (Or.inl (by decide))) (qm_gk (qm_gk (qm_gk (qm_gk (qm_gk g1351 (by decide) (Or.inl (by decide))) (by decide) (Or.inl (by decide))) (by decide) (Or.inl (by decide))) (by decide) (Or.inl (by decide))) (by decide) (Or.inl (by decide))) (qm_gk (qm_gk (qm_gk (qm_gk (qm_gk g1352 (by decide) (Or.inl (by decide))) (by decide) (Or.inl (by decide))) (by decide) (Or.inl (by decide))) (by decide) (Or.inl (by decide))) (by decide) (Or.inr rfl)) (qm_ge _ _ _) (qm_gk (qm_gk (qm_ge _ _ _) (by decide) (Or.inl (by decide))) (by decide) (Or.inl (by decide))) (by omega) (by decide) hI1423 hF1425 (by rw [hb1426.2, hb1426.1, e1412, e1413, e1414]; exact (qps_go (m := (x3 - (u1354 + 1) : Int).toNat) (⟨by omega, by omega, by omega, by unfold qfit; rw [← e1396, ← e1397, ← e1398]; omega⟩) (by omega)).symm.trans hx1363) (by omega)
              exact hL1365 ((20 - 0 + 1 : Int)).toNat _ 0 1 σ α (by omega) rfl rfl rfl rfl rfl rfl (by decide) (by decide) hI hF0 (by rw [show (x3 - 0 : Int).toNat = (x3 : Int).toNat by omega]) (by omega)
        · skip
          refine qr_bipush 43 rfl (by decide) rfl ?_
          refine qr_retI rfl rfl (by decide) (by decide) ?_
          exact ⟨_, _, rfl, hI, hF0, (-12), rfl, (by decide), (Or.inr (Or.inr (Or.inl ⟨rfl, by omega, ⟨by omega, by omega⟩, rfl, rfl⟩)))⟩
    · skip
      refine qr_iconst 20 rfl rfl ?_
      refine qr_retI rfl rfl (by decide) (by decide) ?_
      exact ⟨_, _, rfl, hI, hF0, (-1), rfl, (by decide), (Or.inl ⟨rfl, by omega, rfl, rfl⟩)⟩

set_option maxHeartbeats 4000000 in
set_option maxRecDepth 20000 in
/-- OneRoof$Feuds.begin -/
theorem sf_63_27z {L : Nat} {xs : Nat → Int} {vb : Bool} {d : Nat} {σ α : Nat → Nat → Int} {κ : Nat → Option Nat} {ρ : Nat} {x1 : Int} {x2 : Int} {x3 : Int} {x4 : Int} {x5 : Int} (hI : qI σ α κ ρ) (r1 : 0 ≤ x1 ∧ x1 ≤ 31) (r2 : 0 ≤ x2 ∧ x2 ≤ 31) (r3 : (-2147483648) ≤ x3 ∧ x3 ≤ 2147483647) (r4 : 0 ≤ x4 ∧ x4 ≤ 3) (r5 : (-2147483648) ≤ x5 ∧ x5 ≤ 2147483647) (p0 : σ 27 7 ≤ 39) : qm_T (qe L xs vb) (d + 1) 63 [.ref 27, .int (qz x1), .int (qz x2), .int (qz x3), .int (qz x4), .int (qz x5)] (qw σ α κ ρ) (fun r w' => ∃ σ' α', w' = qw σ' α' κ ρ ∧ qI σ' α' κ ρ ∧ qFr [(27, 7)] [28, 29, 30, 31, 32, 33] σ α σ' α' ∧ σ' 27 7 = σ 27 7 + 1 ∧ ∃ v : Int, r = some (.int (qz v)) ∧ (0 ≤ v ∧ v ≤ 39) ∧ v = σ 27 7 ∧ α' 28 = qzu (α 28) (σ 27 7 : Int).toNat (x1) ∧ α' 29 = qzu (α 29) (σ 27 7 : Int).toNat (x2) ∧ α' 30 = qzu (α 30) (σ 27 7 : Int).toNat (x3) ∧ α' 31 = qzu (α 31) (σ 27 7 : Int).toNat (x4) ∧ α' 32 = qzu (α 32) (σ 27 7 : Int).toNat (x5) ∧ α' 33 = qzu (α 33) (σ 27 7 : Int).toNat (2400)) := by
  refine qr_start (d := d + 0) qv_e63 (Nat.le_of_ble_eq_true rfl) ?_
  show qr_W (qe L xs vb) (d + 0) qx_e63 _ (0, [(0, .ref 27), (1, .int (qz x1)), (2, .int (qz x2)), (3, .int (qz x3)), (4, .int (qz x4)), (5, .int (qz x5))], [], _, 0, 0)
  have hF0 := qFr_rf [(27, 7)] [28, 29, 30, 31, 32, 33] σ α
  have hz27_7 : 0 ≤ σ 27 7 ∧ σ 27 7 ≤ 40 := hI.1 27 7
  refine qr_aload_n 1 rfl rfl rfl ?_
  refine qr_get 4 rfl rfl rfl (by decide) rfl ?_
  refine qr_aload_n 5 rfl rfl rfl ?_
  refine qr_get 8 rfl rfl rfl (by decide) rfl ?_
  refine qr_iload_n 9 rfl rfl rfl ?_
  refine qr_iastore 10 rfl (by decide) rfl (by omega) (by decide) rfl ?_
  refine qy_wA (qw_r α 28 (qzu (α 28) ((σ 27 7) : Int).toNat x1)) rfl (fun α1 e2 => ?_)
  have hI3 : qI σ α1 κ ρ := by rw [e2]; exact qI_r hI 28 _ rfl (show 0 ≤ x1 ∧ x1 ≤ 31 by omega)
  have hF4 : qFr [(27, 7)] [28, 29, 30, 31, 32, 33] σ α σ α1 := by rw [e2]; exact qFr_r hF0 28 _ (by decide)
  refine qr_aload_n 11 rfl rfl rfl ?_
  refine qr_get 14 rfl rfl rfl (by decide) rfl ?_
  refine qr_aload_n 15 rfl rfl rfl ?_
  refine qr_get 18 rfl rfl rfl (by decide) rfl ?_
  refine qr_iload_n 19 rfl rfl rfl ?_
  refine qr_iastore 20 rfl (by decide) rfl (by omega) (by decide) rfl ?_
  refine qy_wA (qw_r α1 29 (qzu (α1 29) ((σ 27 7) : Int).toNat x2)) rfl (fun α5 e6 => ?_)
  have hI7 : qI σ α5 κ ρ := by rw [e6]; exact qI_r hI3 29 _ rfl (show 0 ≤ x2 ∧ x2 ≤ 31 by omega)
  have hF8 : qFr [(27, 7)] [28, 29, 30, 31, 32, 33] σ α σ α5 := by rw [e6]; exact qFr_r hF4 29 _ (by decide)
  refine qr_aload_n 21 rfl rfl rfl ?_
  refine qr_get 24 rfl rfl rfl (by decide) rfl ?_
  refine qr_aload_n 25 rfl rfl rfl ?_
  refine qr_get 28 rfl rfl rfl (by decide) rfl ?_
  refine qr_iload_n 29 rfl rfl rfl ?_
  refine qr_iastore 30 rfl (by decide) rfl (by omega) (by decide) rfl ?_
  refine qy_wA (qw_r α5 30 (qzu (α5 30) ((σ 27 7) : Int).toNat x3)) rfl (fun α9 e10 => ?_)
  have hI11 : qI σ α9 κ ρ := by rw [e10]; exact qI_r hI7 30 _ rfl (show (-2147483648) ≤ x3 ∧ x3 ≤ 2147483647 by omega)
  have hF12 : qFr [(27, 7)] [28, 29, 30, 31, 32, 33] σ α σ α9 := by rw [e10]; exact qFr_r hF8 30 _ (by decide)
  refine qr_aload_n 31 rfl rfl rfl ?_
  refine qr_get 34 rfl rfl rfl (by decide) rfl ?_
  refine qr_aload_n 35 rfl rfl rfl ?_
  refine qr_get 38 rfl rfl rfl (by decide) rfl ?_
  refine qr_iload 40 rfl rfl rfl ?_
  refine qr_iastore 41 rfl (by decide) rfl (by omega) (by decide) rfl ?_
  refine qy_wA (qw_r α9 31 (qzu (α9 31) ((σ 27 7) : Int).toNat x4)) rfl (fun α13 e14 => ?_)
  have hI15 : qI σ α13 κ ρ := by rw [e14]; exact qI_r hI11 31 _ rfl (show 0 ≤ x4 ∧ x4 ≤ 3 by omega)
  have hF16 : qFr [(27, 7)] [28, 29, 30, 31, 32, 33] σ α σ α13 := by rw [e14]; exact qFr_r hF12 31 _ (by decide)
  refine qr_aload_n 42 rfl rfl rfl ?_
  refine qr_get 45 rfl rfl rfl (by decide) rfl ?_
  refine qr_aload_n 46 rfl rfl rfl ?_
  refine qr_get 49 rfl rfl rfl (by decide) rfl ?_
  refine qr_iload 51 rfl rfl rfl ?_
  refine qr_iastore 52 rfl (by decide) rfl (by omega) (by decide) rfl ?_
  refine qy_wA (qw_r α13 32 (qzu (α13 32) ((σ 27 7) : Int).toNat x5)) rfl (fun α17 e18 => ?_)
  have hI19 : qI σ α17 κ ρ := by rw [e18]; exact qI_r hI15 32 _ rfl (show (-2147483648) ≤ x5 ∧ x5 ≤ 2147483647 by omega)
  have hF20 : qFr [(27, 7)] [28, 29, 30, 31, 32, 33] σ α σ α17 := by rw [e18]; exact qFr_r hF16 32 _ (by decide)
  refine qr_aload_n 53 rfl rfl rfl ?_
  refine qr_get 56 rfl rfl rfl (by decide) rfl ?_
  refine qr_aload_n 57 rfl rfl rfl ?_
  refine qr_get 60 rfl rfl rfl (by decide) rfl ?_
  refine qr_sipush 63 rfl (by decide) rfl ?_
  refine qr_iastore 64 rfl (by decide) rfl (by omega) (by decide) rfl ?_
  refine qy_wA (qw_r α17 33 (qzu (α17 33) ((σ 27 7) : Int).toNat 2400)) rfl (fun α21 e22 => ?_)
  have hI23 : qI σ α21 κ ρ := by rw [e22]; exact qI_r hI19 33 _ rfl (show (-2147483648) ≤ 2400 ∧ 2400 ≤ 2147483647 by omega)
  have hF24 : qFr [(27, 7)] [28, 29, 30, 31, 32, 33] σ α σ α21 := by rw [e22]; exact qFr_r hF20 33 _ (by decide)
  refine qr_aload_n 65 rfl rfl rfl ?_
  refine qr_dup 66 rfl rfl rfl ?_
  refine qr_get 69 rfl rfl rfl (by decide) rfl ?_
  refine qr_dup_x1 70 rfl rfl rfl rfl ?_
  refine qr_iconst 71 rfl rfl ?_
  refine qr_iadd 72 rfl rfl ?_
  refine qr_put 75 rfl (by decide) rfl (Nat.le_of_ble_eq_true rfl) (Nat.le_of_ble_eq_true rfl) (Or.inl rfl) (qr_fitI rfl _) rfl ?_
  refine qy_wS (qw_s σ 27 7 ((σ 27 7) + 1)) rfl (fun σ25 e26 => ?_)
  have hI27 : qI σ25 α21 κ ρ := by rw [e26]; exact qI_s hI23 27 7 rfl (show 0 ≤ ((σ 27 7) + 1) ∧ ((σ 27 7) + 1) ≤ 40 by omega)
  have hF28 : qFr [(27, 7)] [28, 29, 30, 31, 32, 33] σ α σ25 α21 := by rw [e26]; exact qFr_s hF24 27 7 _ (by decide)
  refine qr_retI rfl rfl (by decide) (by decide) ?_
  exact ⟨_, _, rfl, hI27, hF28, (by have hw : σ25 27 7 = ((σ 27 7) + 1) := (congrFun (congrFun e26 27) 7).trans rfl; omega), (σ 27 7), rfl, (by omega), by omega, ((congrFun e22 28).trans ((qw_r_ne (by decide)).trans ((congrFun e18 28).trans ((qw_r_ne (by decide)).trans ((congrFun e14 28).trans ((qw_r_ne (by decide)).trans ((congrFun e10 28).trans ((qw_r_ne (by decide)).trans ((congrFun e6 28).trans ((qw_r_ne (by decide)).trans ((congrFun e2 28).trans (qw_r_eq.trans (congrArg (fun f => qzu f ((σ 27 7) : Int).toNat x1) rfl))))))))))))), ((congrFun e22 29).trans ((qw_r_ne (by decide)).trans ((congrFun e18 29).trans ((qw_r_ne (by decide)).trans ((congrFun e14 29).trans ((qw_r_ne (by decide)).trans ((congrFun e10 29).trans ((qw_r_ne (by decide)).trans ((congrFun e6 29).trans (qw_r_eq.trans (congrArg (fun f => qzu f ((σ 27 7) : Int).toNat x2) ((congrFun e2 29).trans ((qw_r_ne (by decide)).trans rfl))))))))))))), ((congrFun e22 30).trans ((qw_r_ne (by decide)).trans ((congrFun e18 30).trans ((qw_r_ne (by decide)).trans ((congrFun e14 30).trans ((qw_r_ne (by decide)).trans ((congrFun e10 30).trans (qw_r_eq.trans (congrArg (fun f => qzu f ((σ 27 7) : Int).toNat x3) ((congrFun e6 30).trans ((qw_r_ne (by decide)).trans ((congrFun e2 30).trans ((qw_r_ne (by decide)).trans rfl))))))))))))), ((congrFun e22 31).trans ((qw_r_ne (by decide)).trans ((congrFun e18 31).trans ((qw_r_ne (by decide)).trans ((congrFun e14 31).trans (qw_r_eq.trans (congrArg (fun f => qzu f ((σ 27 7) : Int).toNat x4) ((congrFun e10 31).trans ((qw_r_ne (by decide)).trans ((congrFun e6 31).trans ((qw_r_ne (by decide)).trans ((congrFun e2 31).trans ((qw_r_ne (by decide)).trans rfl))))))))))))), ((congrFun e22 32).trans ((qw_r_ne (by decide)).trans ((congrFun e18 32).trans (qw_r_eq.trans (congrArg (fun f => qzu f ((σ 27 7) : Int).toNat x5) ((congrFun e14 32).trans ((qw_r_ne (by decide)).trans ((congrFun e10 32).trans ((qw_r_ne (by decide)).trans ((congrFun e6 32).trans ((qw_r_ne (by decide)).trans ((congrFun e2 32).trans ((qw_r_ne (by decide)).trans rfl))))))))))))), ((congrFun e22 33).trans (qw_r_eq.trans (congrArg (fun f => qzu f ((σ 27 7) : Int).toNat 2400) ((congrFun e18 33).trans ((qw_r_ne (by decide)).trans ((congrFun e14 33).trans ((qw_r_ne (by decide)).trans ((congrFun e10 33).trans ((qw_r_ne (by decide)).trans ((congrFun e6 33).trans ((qw_r_ne (by decide)).trans ((congrFun e2 33).trans ((qw_r_ne (by decide)).trans rfl)))))))))))))⟩

set_option maxHeartbeats 4000000 in
set_option maxRecDepth 20000 in
/-- OneRoof.feud -/
theorem sf_60_16z {L : Nat} {xs : Nat → Int} {vb : Bool} {d : Nat} {σ α : Nat → Nat → Int} {κ : Nat → Option Nat} {ρ : Nat} {x1 : Int} {x2 : Int} {x3 : Int} (hI : qI σ α κ ρ) (r1 : (-2147483648) ≤ x1 ∧ x1 ≤ 2147483647) (r2 : (-2147483648) ≤ x2 ∧ x2 ≤ 2147483647) (r3 : (-2147483648) ≤ x3 ∧ x3 ≤ 2147483647) : qm_T (qe L xs vb) (d + 3) 60 [.ref 16, .int (qz x1), .int (qz x2), .int (qz x3)] (qw σ α κ ρ) (fun r w' => ∃ σ' α', w' = qw σ' α' κ ρ ∧ qI σ' α' κ ρ ∧ qFr [(27, 7)] [28, 29, 30, 31, 32, 33] σ α σ' α' ∧ ∃ v : Int, r = some (.int (qz v)) ∧ ((-2147483648) ≤ v ∧ v ≤ 2147483647) ∧ (((v = -1 ∧ ¬ (0 ≤ x1 ∧ x1 / 100 < σ 17 6 ∧ x1 % 100 < σ 17 6 ∧ ¬ x1 / 100 = x1 % 100 ∧ 0 ≤ x2 ∧ x2 ≤ 2399 ∧ 0 ≤ x3 ∧ x3 ≤ 3999) ∧ σ' 27 7 = σ 27 7) ∧ α' 28 = α 28 ∧ α' 29 = α 29 ∧ α' 30 = α 30 ∧ α' 31 = α 31 ∧ α' 32 = α 32 ∧ α' 33 = α 33) ∨ ((v = -3 ∧ (0 ≤ x1 ∧ x1 / 100 < σ 17 6 ∧ x1 % 100 < σ 17 6 ∧ ¬ x1 / 100 = x1 % 100 ∧ 0 ≤ x2 ∧ x2 ≤ 2399 ∧ 0 ≤ x3 ∧ x3 ≤ 3999) ∧ 40 ≤ σ 27 7 ∧ σ' 27 7 = σ 27 7) ∧ α' 28 = α 28 ∧ α' 29 = α 29 ∧ α' 30 = α 30 ∧ α' 31 = α 31 ∧ α' 32 = α 32 ∧ α' 33 = α 33) ∨ ((v = σ 27 7 ∧ (0 ≤ x1 ∧ x1 / 100 < σ 17 6 ∧ x1 % 100 < σ 17 6 ∧ ¬ x1 / 100 = x1 % 100 ∧ 0 ≤ x2 ∧ x2 ≤ 2399 ∧ 0 ≤ x3 ∧ x3 ≤ 3999) ∧ σ 27 7 < 40 ∧ σ' 27 7 = σ 27 7 + 1) ∧ α' 28 = qzu (α 28) (σ 27 7 : Int).toNat (x1 / 100) ∧ α' 29 = qzu (α 29) (σ 27 7 : Int).toNat (x1 % 100) ∧ α' 30 = qzu (α 30) (σ 27 7 : Int).toNat (x2) ∧ α' 31 = qzu (α 31) (σ 27 7 : Int).toNat (x3 / 1000) ∧ α' 32 = qzu (α 32) (σ 27 7 : Int).toNat (x3 % 1000) ∧ α' 33 = qzu (α 33) (σ 27 7 : Int).toNat (2400)))) := by
  refine qr_start (d := d + 2) qv_e60 (Nat.le_of_ble_eq_true rfl) ?_
  show qr_W (qe L xs vb) (d + 2) qx_e60 _ (0, [(0, .ref 16), (1, .int (qz x1)), (2, .int (qz x2)), (3, .int (qz x3))], [], _, 0, 0)
  have hF0 := qFr_rf [(27, 7)] [28, 29, 30, 31, 32, 33] σ α
  have hz17_6 : 0 ≤ σ 17 6 ∧ σ 17 6 ≤ 32 := hI.1 17 6
  have hz27_7 : 0 ≤ σ 27 7 ∧ σ 27 7 ≤ 40 := hI.1 27 7
  refine qr_aload_n 1 rfl rfl rfl ?_
  refine qr_get 4 rfl rfl rfl (by decide) rfl ?_
  refine qr_iload_n 5 rfl rfl rfl ?_
  refine qr_callN 8 rfl rfl rfl (sf_61_17 (d := d + 0) hI r1) ?_
  have hs3 : 0 ≤ σ 17 6 ∧ σ 17 6 ≤ 32 := hI.1 17 6
  rintro _ _ ⟨rfl, v1, rfl, hv1, hp2⟩
  show qr_W (qe L xs vb) (d + 2) qx_e60 _ (8, _, [.int (qz v1)], qw σ α κ ρ, 0, 0)
  refine qr_if_eq 29 11 rfl rfl rfl (qrg hv1 (by decide) (by decide)) (fun h4 => ?_) (fun h4 => ?_)
  · skip
    refine qr_iconst 30 rfl rfl ?_
    refine qr_retI rfl rfl (by decide) (by decide) ?_
    have hw5 : σ 27 7 = (σ 27 7) := rfl
    exact ⟨_, _, rfl, hI, hF0, (-1), rfl, (by decide), (Or.inl ⟨by omega, rfl, rfl, rfl, rfl, rfl, rfl⟩)⟩
  · skip
    refine qr_iload_n 12 rfl rfl rfl ?_
    refine qr_callN 15 rfl rfl rfl (sf_62 (d := d + 1) hI r2) ?_
    rintro _ _ ⟨rfl, v6, rfl, hv6, hp7⟩
    show qr_W (qe L xs vb) (d + 2) qx_e60 _ (15, _, [.int (qz v6)], qw σ α κ ρ, 0, 0)
    refine qr_if_eq 29 18 rfl rfl rfl (qrg hv6 (by decide) (by decide)) (fun h8 => ?_) (fun h8 => ?_)
    · skip
      refine qr_iconst 30 rfl rfl ?_
      refine qr_retI rfl rfl (by decide) (by decide) ?_
      have hw9 : σ 27 7 = (σ 27 7) := rfl
      exact ⟨_, _, rfl, hI, hF0, (-1), rfl, (by decide), (Or.inl ⟨by omega, rfl, rfl, rfl, rfl, rfl, rfl⟩)⟩
    · skip
      refine qr_iload_n 19 rfl rfl rfl ?_
      refine qr_if_lt 29 22 rfl rfl rfl r3 (fun h10 => ?_) (fun h10 => ?_)
      · skip
        refine qr_iconst 30 rfl rfl ?_
        refine qr_retI rfl rfl (by decide) (by decide) ?_
        have hw11 : σ 27 7 = (σ 27 7) := rfl
        exact ⟨_, _, rfl, hI, hF0, (-1), rfl, (by decide), (Or.inl ⟨by omega, rfl, rfl, rfl, rfl, rfl, rfl⟩)⟩
      · skip
        refine qr_iload_n 23 rfl rfl rfl ?_
        refine qr_sipush 26 rfl (by decide) rfl ?_
        refine qr_icmp_le 31 29 rfl rfl rfl r3 (by decide) (fun h12 => ?_) (fun h12 => ?_)
        · skip
          refine qr_aload_n 32 rfl rfl rfl ?_
          refine qr_get 35 rfl rfl rfl (by decide) rfl ?_
          refine qr_get 38 rfl rfl rfl (by decide) rfl ?_
          refine qr_bipush 40 rfl (by decide) rfl ?_
          refine qr_icmp_lt 46 43 rfl rfl rfl (qrg hz27_7 (by decide) (by decide)) (by decide) (fun h13 => ?_) (fun h13 => ?_)
          · skip
            refine qr_aload_n 47 rfl rfl rfl ?_
            refine qr_get 50 rfl rfl rfl (by decide) rfl ?_
            refine qr_iload_n 51 rfl rfl rfl ?_
            refine qr_bipush 53 rfl (by decide) rfl ?_
            refine qr_idiv 54 rfl (by omega) (by decide) rfl ?_
            refine qr_iload_n 55 rfl rfl rfl ?_
            refine qr_bipush 57 rfl (by decide) rfl ?_
            refine qr_irem 58 rfl (by omega) (by decide) rfl ?_
            refine qr_iload_n 59 rfl rfl rfl ?_
            refine qr_iload_n 60 rfl rfl rfl ?_
            refine qr_sipush 63 rfl (by decide) rfl ?_
            refine qr_idiv 64 rfl (by omega) (by decide) rfl ?_
            refine qr_iload_n 65 rfl rfl rfl ?_
            refine qr_sipush 68 rfl (by decide) rfl ?_
            refine qr_irem 69 rfl (by omega) (by decide) rfl ?_
            have hs14 : 0 ≤ σ 27 7 ∧ σ 27 7 ≤ 40 := hI.1 27 7
            refine qr_callN 72 rfl rfl rfl (sf_63_27z (d := d + 1) hI (by omega) (by omega) r2 (by omega) (by omega) (by omega)) ?_
            have hs24 : 0 ≤ σ 27 7 ∧ σ 27 7 ≤ 40 := hI.1 27 7
            rintro _ _ ⟨σ25, α26, rfl, hI27, hG28, hw23, v15, rfl, hv15, hp16, hx17, hx18, hx19, hx20, hx21, hx22⟩
            have hF29 : qFr [(27, 7)] [28, 29, 30, 31, 32, 33] σ α σ25 α26 := qFr_t hF0 hG28 (by decide) (by decide)
            have hs30 : 0 ≤ σ25 27 7 ∧ σ25 27 7 ≤ 40 := hI27.1 27 7
            show qr_W (qe L xs vb) (d + 2) qx_e60 _ (72, _, [.int (qz v15)], qw σ25 α26 κ ρ, 0, 0)
            refine qr_retI rfl rfl (by decide) (by decide) ?_
            have hw31 : σ25 27 7 = (σ25 27 7) := rfl
            exact ⟨_, _, rfl, hI27, hF29, v15, rfl, (qrg hv15 (by decide) (by decide)), (Or.inr (Or.inr (⟨by omega, (hx17.trans (congrArg (fun f => qzu (f) (σ 27 7 : Int).toNat ((x1 / 100))) rfl)), (hx18.trans (congrArg (fun f => qzu (f) (σ 27 7 : Int).toNat ((x1 % 100))) rfl)), (hx19.trans (congrArg (fun f => qzu (f) (σ 27 7 : Int).toNat (x2)) rfl)), (hx20.trans (congrArg (fun f => qzu (f) (σ 27 7 : Int).toNat ((x3 / 1000))) rfl)), (hx21.trans (congrArg (fun f => qzu (f) (σ 27 7 : Int).toNat ((x3 % 1000))) rfl)), (hx22.trans (congrArg (fun f => qzu (f) (σ 27 7 : Int).toNat (2400)) rfl))⟩)))⟩
          · skip
            refine qr_bipush 45 rfl (by decide) rfl ?_
            refine qr_retI rfl rfl (by decide) (by decide) ?_
            have hw32 : σ 27 7 = (σ 27 7) := rfl
            exact ⟨_, _, rfl, hI, hF0, (-3), rfl, (by decide), (Or.inr (Or.inl ⟨by omega, rfl, rfl, rfl, rfl, rfl, rfl⟩))⟩
        · skip
          refine qr_iconst 30 rfl rfl ?_
          refine qr_retI rfl rfl (by decide) (by decide) ?_
          have hw33 : σ 27 7 = (σ 27 7) := rfl
          exact ⟨_, _, rfl, hI, hF0, (-1), rfl, (by decide), (Or.inl ⟨by omega, rfl, rfl, rfl, rfl, rfl, rfl⟩)⟩

set_option maxHeartbeats 4000000 in
set_option maxRecDepth 20000 in
/-- OneRoofModel.feud -/
theorem sf_190_86z {L : Nat} {xs : Nat → Int} {vb : Bool} {d : Nat} {σ α : Nat → Nat → Int} {κ : Nat → Option Nat} {ρ : Nat} {x1 : Int} {x2 : Int} {x3 : Int} (hI : qI σ α κ ρ) (r1 : (-2147483648) ≤ x1 ∧ x1 ≤ 2147483647) (r2 : (-2147483648) ≤ x2 ∧ x2 ≤ 2147483647) (r3 : (-2147483648) ≤ x3 ∧ x3 ≤ 2147483647) : qm_T (qe L xs vb) (d + 4) 190 [.ref 86, .int (qz x1), .int (qz x2), .int (qz x3)] (qw σ α κ ρ) (fun r w' => ∃ σ' α', w' = qw σ' α' κ ρ ∧ qI σ' α' κ ρ ∧ qFr [(86, 16)] [87, 97, 98, 99, 100, 101] σ α σ' α' ∧ ∃ v : Int, r = some (.int (qz v)) ∧ ((-2147483648) ≤ v ∧ v ≤ 2147483647) ∧ (((v = -1 ∧ ¬ (0 ≤ x1 ∧ x1 / 100 < σ 86 6 ∧ x1 % 100 < σ 86 6 ∧ ¬ x1 / 100 = x1 % 100 ∧ 0 ≤ x2 ∧ x2 ≤ 2399 ∧ 0 ≤ x3 ∧ x3 ≤ 3999) ∧ σ' 86 16 = σ 86 16) ∧ α' 97 = α 97 ∧ α' 98 = α 98 ∧ α' 99 = α 99 ∧ α' 100 = α 100 ∧ α' 101 = α 101 ∧ α' 87 = α 87) ∨ ((v = -3 ∧ (0 ≤ x1 ∧ x1 / 100 < σ 86 6 ∧ x1 % 100 < σ 86 6 ∧ ¬ x1 / 100 = x1 % 100 ∧ 0 ≤ x2 ∧ x2 ≤ 2399 ∧ 0 ≤ x3 ∧ x3 ≤ 3999) ∧ 40 ≤ σ 86 16 ∧ σ' 86 16 = σ 86 16) ∧ α' 97 = α 97 ∧ α' 98 = α 98 ∧ α' 99 = α 99 ∧ α' 100 = α 100 ∧ α' 101 = α 101 ∧ α' 87 = α 87) ∨ ((v = σ 86 16 ∧ (0 ≤ x1 ∧ x1 / 100 < σ 86 6 ∧ x1 % 100 < σ 86 6 ∧ ¬ x1 / 100 = x1 % 100 ∧ 0 ≤ x2 ∧ x2 ≤ 2399 ∧ 0 ≤ x3 ∧ x3 ≤ 3999) ∧ σ 86 16 < 40 ∧ σ' 86 16 = σ 86 16 + 1) ∧ α' 97 = qzu (α 97) (σ 86 16 : Int).toNat (x1 / 100) ∧ α' 98 = qzu (α 98) (σ 86 16 : Int).toNat (x1 % 100) ∧ α' 99 = qzu (α 99) (σ 86 16 : Int).toNat (x2) ∧ α' 100 = qzu (α 100) (σ 86 16 : Int).toNat (x3 / 1000) ∧ α' 101 = qzu (α 101) (σ 86 16 : Int).toNat (x3 % 1000) ∧ α' 87 = qzu (α 87) (32 + σ 86 16 : Int).toNat (2400)))) := by
  refine qr_start (d := d + 3) qv_e190 (Nat.le_of_ble_eq_true rfl) ?_
  show qr_W (qe L xs vb) (d + 3) qx_e190 _ (0, [(0, .ref 86), (1, .int (qz x1)), (2, .int (qz x2)), (3, .int (qz x3))], [], _, 0, 0)
  have hF0 := qFr_rf [(86, 16)] [87, 97, 98, 99, 100, 101] σ α
  have hz86_6 : 0 ≤ σ 86 6 ∧ σ 86 6 ≤ 32 := hI.1 86 6
  have hz86_16 : 0 ≤ σ 86 16 ∧ σ 86 16 ≤ 40 := hI.1 86 16
  refine qr_aload_n 1 rfl rfl rfl ?_
  refine qr_iload_n 2 rfl rfl rfl ?_
  refine qr_callN 5 rfl rfl rfl (sf_191_86 (d := d + 0) hI r1) ?_
  have hs3 : 0 ≤ σ 86 6 ∧ σ 86 6 ≤ 32 := hI.1 86 6
  rintro _ _ ⟨rfl, v1, rfl, hv1, hp2⟩
  show qr_W (qe L xs vb) (d + 3) qx_e190 _ (5, _, [.int (qz v1)], qw σ α κ ρ, 0, 0)
  refine qr_if_eq 27 8 rfl rfl rfl (qrg hv1 (by decide) (by decide)) (fun h4 => ?_) (fun h4 => ?_)
  · skip
    refine qr_iconst 28 rfl rfl ?_
    refine qr_retI rfl rfl (by decide) (by decide) ?_
    have hw5 : σ 86 16 = (σ 86 16) := rfl
    exact ⟨_, _, rfl, hI, hF0, (-1), rfl, (by decide), (Or.inl ⟨by omega, rfl, rfl, rfl, rfl, rfl, rfl⟩)⟩
  · skip
    refine qr_iload_n 9 rfl rfl rfl ?_
    refine qr_callN 12 rfl rfl rfl (sf_192 (d := d + 1) hI r2) ?_
    rintro _ _ ⟨rfl, v6, rfl, hv6, hp7⟩
    show qr_W (qe L xs vb) (d + 3) qx_e190 _ (12, _, [.int (qz v6)], qw σ α κ ρ, 0, 0)
    refine qr_if_eq 27 15 rfl rfl rfl (qrg hv6 (by decide) (by decide)) (fun h8 => ?_) (fun h8 => ?_)
    · skip
      refine qr_iconst 28 rfl rfl ?_
      refine qr_retI rfl rfl (by decide) (by decide) ?_
      have hw9 : σ 86 16 = (σ 86 16) := rfl
      exact ⟨_, _, rfl, hI, hF0, (-1), rfl, (by decide), (Or.inl ⟨by omega, rfl, rfl, rfl, rfl, rfl, rfl⟩)⟩
    · skip
      refine qr_iload_n 16 rfl rfl rfl ?_
      refine qr_i2l 17 rfl r3 rfl ?_
      refine qr_lconst 18 rfl rfl ?_
      refine qy_vl 0 rfl ?_
      refine qr_ldc2 3999 21 rfl (by decide) rfl ?_
      refine qr_callN 24 rfl rfl rfl (sf_176 (d := d + 2) hI (qrg r3 (by decide) (by decide)) (by decide) (by decide)) ?_
      rintro _ _ ⟨rfl, v10, rfl, hv10, hp11⟩
      show qr_W (qe L xs vb) (d + 3) qx_e190 _ (24, _, [.int (qz v10)], qw σ α κ ρ, 0, 0)
      refine qr_if_ne 29 27 rfl rfl rfl (qrg hv10 (by decide) (by decide)) (fun h12 => ?_) (fun h12 => ?_)
      · skip
        refine qr_aload_n 30 rfl rfl rfl ?_
        refine qr_get 33 rfl rfl rfl (by decide) rfl ?_
        refine qr_bipush 35 rfl (by decide) rfl ?_
        refine qr_icmp_ne 41 38 rfl rfl rfl (qrg hz86_16 (by decide) (by decide)) (by decide) (fun h13 => ?_) (fun h13 => ?_)
        · skip
          refine qr_aload_n 42 rfl rfl rfl ?_
          refine qr_get 45 rfl rfl rfl (by decide) rfl ?_
          refine qr_aload_n 46 rfl rfl rfl ?_
          refine qr_get 49 rfl rfl rfl (by decide) rfl ?_
          refine qr_iload_n 50 rfl rfl rfl ?_
          refine qr_bipush 52 rfl (by decide) rfl ?_
          refine qr_idiv 53 rfl (by omega) (by decide) rfl ?_
          refine qr_iastore 54 rfl (by decide) rfl (by omega) (by decide) rfl ?_
          refine qy_wA (qw_r α 97 (qzu (α 97) ((σ 86 16) : Int).toNat (x1 / 100))) rfl (fun α14 e15 => ?_)
          have hI16 : qI σ α14 κ ρ := by rw [e15]; exact qI_r hI 97 _ rfl (show 0 ≤ (x1 / 100) ∧ (x1 / 100) ≤ 31 by omega)
          have hF17 : qFr [(86, 16)] [87, 97, 98, 99, 100, 101] σ α σ α14 := by rw [e15]; exact qFr_r hF0 97 _ (by decide)
          refine qr_aload_n 55 rfl rfl rfl ?_
          refine qr_get 58 rfl rfl rfl (by decide) rfl ?_
          refine qr_aload_n 59 rfl rfl rfl ?_
          refine qr_get 62 rfl rfl rfl (by decide) rfl ?_
          refine qr_iload_n 63 rfl rfl rfl ?_
          refine qr_bipush 65 rfl (by decide) rfl ?_
          refine qr_irem 66 rfl (by omega) (by decide) rfl ?_
          refine qr_iastore 67 rfl (by decide) rfl (by omega) (by decide) rfl ?_
          refine qy_wA (qw_r α14 98 (qzu (α14 98) ((σ 86 16) : Int).toNat (x1 % 100))) rfl (fun α18 e19 => ?_)
          have hI20 : qI σ α18 κ ρ := by rw [e19]; exact qI_r hI16 98 _ rfl (show 0 ≤ (x1 % 100) ∧ (x1 % 100) ≤ 31 by omega)
          have hF21 : qFr [(86, 16)] [87, 97, 98, 99, 100, 101] σ α σ α18 := by rw [e19]; exact qFr_r hF17 98 _ (by decide)
          refine qr_aload_n 68 rfl rfl rfl ?_
          refine qr_get 71 rfl rfl rfl (by decide) rfl ?_
          refine qr_aload_n 72 rfl rfl rfl ?_
          refine qr_get 75 rfl rfl rfl (by decide) rfl ?_
          refine qr_iload_n 76 rfl rfl rfl ?_
          refine qr_iastore 77 rfl (by decide) rfl (by omega) (by decide) rfl ?_
          refine qy_wA (qw_r α18 99 (qzu (α18 99) ((σ 86 16) : Int).toNat x2)) rfl (fun α22 e23 => ?_)
          have hI24 : qI σ α22 κ ρ := by rw [e23]; exact qI_r hI20 99 _ rfl (show (-2147483648) ≤ x2 ∧ x2 ≤ 2147483647 by omega)
          have hF25 : qFr [(86, 16)] [87, 97, 98, 99, 100, 101] σ α σ α22 := by rw [e23]; exact qFr_r hF21 99 _ (by decide)
          refine qr_aload_n 78 rfl rfl rfl ?_
          refine qr_get 81 rfl rfl rfl (by decide) rfl ?_
          refine qr_aload_n 82 rfl rfl rfl ?_
          refine qr_get 85 rfl rfl rfl (by decide) rfl ?_
          refine qr_iload_n 86 rfl rfl rfl ?_
          refine qr_sipush 89 rfl (by decide) rfl ?_
          refine qr_idiv 90 rfl (by omega) (by decide) rfl ?_
          refine qr_iastore 91 rfl (by decide) rfl (by omega) (by decide) rfl ?_
          refine qy_wA (qw_r α22 100 (qzu (α22 100) ((σ 86 16) : Int).toNat (x3 / 1000))) rfl (fun α26 e27 => ?_)
          have hI28 : qI σ α26 κ ρ := by rw [e27]; exact qI_r hI24 100 _ rfl (show (-2147483648) ≤ (x3 / 1000) ∧ (x3 / 1000) ≤ 2147483647 by omega)
          have hF29 : qFr [(86, 16)] [87, 97, 98, 99, 100, 101] σ α σ α26 := by rw [e27]; exact qFr_r hF25 100 _ (by decide)
          refine qr_aload_n 92 rfl rfl rfl ?_
          refine qr_get 95 rfl rfl rfl (by decide) rfl ?_
          refine qr_aload_n 96 rfl rfl rfl ?_
          as_aux_lemma =>
            refine qr_get 99 rfl rfl rfl (by decide) rfl ?_
            refine qr_iload_n 100 rfl rfl rfl ?_
            refine qr_sipush 103 rfl (by decide) rfl ?_
            refine qr_irem 104 rfl (by omega) (by decide) rfl ?_
            refine qr_iastore 105 rfl (by decide) rfl (by omega) (by decide) rfl ?_
            refine qy_wA (qw_r α26 101 (qzu (α26 101) ((σ 86 16) : Int).toNat (x3 % 1000))) rfl (fun α30 e31 => ?_)
            have hI32 : qI σ α30 κ ρ := by rw [e31]; exact qI_r hI28 101 _ rfl (show (-2147483648) ≤ (x3 % 1000) ∧ (x3 % 1000) ≤ 2147483647 by omega)
            have hF33 : qFr [(86, 16)] [87, 97, 98, 99, 100, 101] σ α σ α30 := by rw [e31]; exact qFr_r hF29 101 _ (by decide)
            refine qr_aload_n 106 rfl rfl rfl ?_
            refine qr_get 109 rfl rfl rfl (by decide) rfl ?_
            refine qr_bipush 111 rfl (by decide) rfl ?_
            refine qr_aload_n 112 rfl rfl rfl ?_
            refine qr_get 115 rfl rfl rfl (by decide) rfl ?_
            refine qr_iadd 116 rfl rfl ?_
            refine qr_sipush 119 rfl (by decide) rfl ?_
            refine qr_iastore 120 rfl (by decide) rfl (by omega) (by decide) rfl ?_
            refine qy_wA (qw_r α30 87 (qzu (α30 87) ((32 + (σ 86 16)) : Int).toNat 2400)) rfl (fun α34 e35 => ?_)
            have hI36 : qI σ α34 κ ρ := by rw [e35]; exact qI_r hI32 87 _ rfl (show (-2147483648) ≤ 2400 ∧ 2400 ≤ 2147483647 by omega)
            have hF37 : qFr [(86, 16)] [87, 97, 98, 99, 100, 101] σ α σ α34 := by rw [e35]; exact qFr_r hF33 87 _ (by decide)
            refine qr_aload_n 121 rfl rfl rfl ?_
            refine qr_dup 122 rfl rfl rfl ?_
            refine qr_get 125 rfl rfl rfl (by decide) rfl ?_
            refine qr_iconst 126 rfl rfl ?_
            refine qr_iadd 127 rfl rfl ?_
            refine qr_put 130 rfl (by decide) rfl (Nat.le_of_ble_eq_true rfl) (Nat.le_of_ble_eq_true rfl) (Or.inl rfl) (qr_fitI rfl _) rfl ?_
            refine qy_wS (qw_s σ 86 16 ((σ 86 16) + 1)) rfl (fun σ38 e39 => ?_)
            have hI40 : qI σ38 α34 κ ρ := by rw [e39]; exact qI_s hI36 86 16 rfl (show 0 ≤ ((σ 86 16) + 1) ∧ ((σ 86 16) + 1) ≤ 40 by omega)
            have hF41 : qFr [(86, 16)] [87, 97, 98, 99, 100, 101] σ α σ38 α34 := by rw [e39]; exact qFr_s hF37 86 16 _ (by decide)
            refine qr_aload_n 131 rfl rfl rfl ?_
            refine qr_get 134 rfl rfl rfl (by decide) rfl ?_
            refine qy_v ((σ 86 16) + 1) ((congrFun (congrFun e39 86) 16).trans rfl) ?_
            refine qr_iconst 135 rfl rfl ?_
            refine qr_isub 136 rfl rfl ?_
            refine qr_retI rfl rfl (by decide) (by decide) ?_
            have hw42 : σ38 86 16 = ((σ 86 16) + 1) := (congrFun (congrFun e39 86) 16).trans rfl
            exact ⟨_, _, rfl, hI40, hF41, (((σ 86 16) + 1) - 1), rfl, (by omega), (Or.inr (Or.inr (⟨by omega, ((congrFun e35 97).trans ((qw_r_ne (by decide)).trans ((congrFun e31 97).trans ((qw_r_ne (by decide)).trans ((congrFun e27 97).trans ((qw_r_ne (by decide)).trans ((congrFun e23 97).trans ((qw_r_ne (by decide)).trans ((congrFun e19 97).trans ((qw_r_ne (by decide)).trans ((congrFun e15 97).trans (qw_r_eq.trans (congrArg (fun f => qzu f ((σ 86 16) : Int).toNat (x1 / 100)) rfl))))))))))))), ((congrFun e35 98).trans ((qw_r_ne (by decide)).trans ((congrFun e31 98).trans ((qw_r_ne (by decide)).trans ((congrFun e27 98).trans ((qw_r_ne (by decide)).trans ((congrFun e23 98).trans ((qw_r_ne (by decide)).trans ((congrFun e19 98).trans (qw_r_eq.trans (congrArg (fun f => qzu f ((σ 86 16) : Int).toNat (x1 % 100)) ((congrFun e15 98).trans ((qw_r_ne (by decide)).trans rfl))))))))))))), ((congrFun e35 99).trans ((qw_r_ne (by decide)).trans ((congrFun e31 99).trans ((qw_r_ne (by decide)).trans ((congrFun e27 99).trans ((qw_r_ne (by decide)).trans ((congrFun e23 99).trans (qw_r_eq.trans (congrArg (fun f => qzu f ((σ 86 16) : Int).toNat x2) ((congrFun e19 99).trans ((qw_r_ne (by decide)).trans ((congrFun e15 99).trans ((qw_r_ne (by decide)).trans rfl))))))))))))), ((congrFun e35 100).trans ((qw_r_ne (by decide)).trans ((congrFun e31 100).trans ((qw_r_ne (by decide)).trans ((congrFun e27 100).trans (qw_r_eq.trans (congrArg (fun f => qzu f ((σ 86 16) : Int).toNat (x3 / 1000)) ((congrFun e23 100).trans ((qw_r_ne (by decide)).trans ((congrFun e19 100).trans ((qw_r_ne (by decide)).trans ((congrFun e15 100).trans ((qw_r_ne (by decide)).trans rfl))))))))))))), ((congrFun e35 101).trans ((qw_r_ne (by decide)).trans ((congrFun e31 101).trans (qw_r_eq.trans (congrArg (fun f => qzu f ((σ 86 16) : Int).toNat (x3 % 1000)) ((congrFun e27 101).trans ((qw_r_ne (by decide)).trans ((congrFun e23 101).trans ((qw_r_ne (by decide)).trans ((congrFun e19 101).trans ((qw_r_ne (by decide)).trans ((congrFun e15 101).trans ((qw_r_ne (by decide)).trans rfl))))))))))))), ((congrFun e35 87).trans (qw_r_eq.trans (congrArg (fun f => qzu f ((32 + (σ 86 16)) : Int).toNat 2400) ((congrFun e31 87).trans ((qw_r_ne (by decide)).trans ((congrFun e27 87).trans ((qw_r_ne (by decide)).trans ((congrFun e23 87).trans ((qw_r_ne (by decide)).trans ((congrFun e19 87).trans ((qw_r_ne (by decide)).trans ((congrFun e15 87).trans ((qw_r_ne (by decide)).trans rfl)))))))))))))⟩)))⟩
        · skip
          refine qr_bipush 40 rfl (by decide) rfl ?_
          refine qr_retI rfl rfl (by decide) (by decide) ?_
          have hw43 : σ 86 16 = (σ 86 16) := rfl
          exact ⟨_, _, rfl, hI, hF0, (-3), rfl, (by decide), (Or.inr (Or.inl ⟨by omega, rfl, rfl, rfl, rfl, rfl, rfl⟩))⟩
      · skip
        refine qr_iconst 28 rfl rfl ?_
        refine qr_retI rfl rfl (by decide) (by decide) ?_
        have hw44 : σ 86 16 = (σ 86 16) := rfl
        exact ⟨_, _, rfl, hI, hF0, (-1), rfl, (by decide), (Or.inl ⟨by omega, rfl, rfl, rfl, rfl, rfl, rfl⟩)⟩

set_option maxHeartbeats 4000000 in
set_option maxRecDepth 20000 in
/-- OneRoof$Peaces.begin -/
theorem sf_71_34z {L : Nat} {xs : Nat → Int} {vb : Bool} {d : Nat} {σ α : Nat → Nat → Int} {κ : Nat → Option Nat} {ρ : Nat} {x1 : Int} {x2 : Int} {x3 : Int} {x4 : Int} {x5 : Int} (hI : qI σ α κ ρ) (r1 : 0 ≤ x1 ∧ x1 ≤ 31) (r2 : 0 ≤ x2 ∧ x2 ≤ 5) (r3 : (-9223372036854775808) ≤ x3 ∧ x3 ≤ 9223372036854775807) (r4 : 0 ≤ x4 ∧ x4 ≤ 2147483647) (r5 : 0 ≤ x5 ∧ x5 ≤ 240) (p0 : σ 34 7 ≤ 59) : qm_T (qe L xs vb) (d + 1) 71 [.ref 34, .int (qz x1), .int (qz x2), .long (ql x3), .int (qz x4), .int (qz x5)] (qw σ α κ ρ) (fun r w' => ∃ σ' α', w' = qw σ' α' κ ρ ∧ qI σ' α' κ ρ ∧ qFr [(34, 7)] [35, 36, 37, 38, 39, 40, 41] σ α σ' α' ∧ σ' 34 7 = σ 34 7 + 1 ∧ ∃ v : Int, r = some (.int (qz v)) ∧ (0 ≤ v ∧ v ≤ 59) ∧ v = σ 34 7 ∧ α' 35 = qzu (α 35) (σ 34 7 : Int).toNat (x2) ∧ α' 36 = qzu (α 36) (σ 34 7 : Int).toNat (x1) ∧ α' 37 = qzu (α 37) (σ 34 7 : Int).toNat (x4 / 10000) ∧ α' 38 = qzu (α 38) (σ 34 7 : Int).toNat (x4 % 10000) ∧ α' 39 = qzu (α 39) (σ 34 7 : Int).toNat (x5) ∧ α' 40 = qzu (α 40) (σ 34 7 : Int).toNat (x4 % 10000 + (if x2 = 2 then x5 else 0)) ∧ α' 41 = qzu (α 41) (σ 34 7 : Int).toNat (x3)) := by
  refine qr_start (d := d + 0) qv_e71 (Nat.le_of_ble_eq_true rfl) ?_
  show qr_W (qe L xs vb) (d + 0) qx_e71 _ (0, [(0, .ref 34), (1, .int (qz x1)), (2, .int (qz x2)), (3, .long (ql x3)), (5, .int (qz x4)), (6, .int (qz x5))], [], _, 0, 0)
  have hF0 := qFr_rf [(34, 7)] [35, 36, 37, 38, 39, 40, 41] σ α
  have hz34_7 : 0 ≤ σ 34 7 ∧ σ 34 7 ≤ 60 := hI.1 34 7
  refine qr_aload_n 1 rfl rfl rfl ?_
  refine qr_get 4 rfl rfl rfl (by decide) rfl ?_
  refine qr_aload_n 5 rfl rfl rfl ?_
  refine qr_get 8 rfl rfl rfl (by decide) rfl ?_
  refine qr_iload_n 9 rfl rfl rfl ?_
  refine qr_iastore 10 rfl (by decide) rfl (by omega) (by decide) rfl ?_
  refine qy_wA (qw_r α 35 (qzu (α 35) ((σ 34 7) : Int).toNat x2)) rfl (fun α1 e2 => ?_)
  have hI3 : qI σ α1 κ ρ := by rw [e2]; exact qI_r hI 35 _ rfl (show (-2147483648) ≤ x2 ∧ x2 ≤ 2147483647 by omega)
  have hF4 : qFr [(34, 7)] [35, 36, 37, 38, 39, 40, 41] σ α σ α1 := by rw [e2]; exact qFr_r hF0 35 _ (by decide)
  refine qr_aload_n 11 rfl rfl rfl ?_
  refine qr_get 14 rfl rfl rfl (by decide) rfl ?_
  refine qr_aload_n 15 rfl rfl rfl ?_
  refine qr_get 18 rfl rfl rfl (by decide) rfl ?_
  refine qr_iload_n 19 rfl rfl rfl ?_
  refine qr_iastore 20 rfl (by decide) rfl (by omega) (by decide) rfl ?_
  refine qy_wA (qw_r α1 36 (qzu (α1 36) ((σ 34 7) : Int).toNat x1)) rfl (fun α5 e6 => ?_)
  have hI7 : qI σ α5 κ ρ := by rw [e6]; exact qI_r hI3 36 _ rfl (show (-2147483648) ≤ x1 ∧ x1 ≤ 2147483647 by omega)
  have hF8 : qFr [(34, 7)] [35, 36, 37, 38, 39, 40, 41] σ α σ α5 := by rw [e6]; exact qFr_r hF4 36 _ (by decide)
  refine qr_aload_n 21 rfl rfl rfl ?_
  refine qr_get 24 rfl rfl rfl (by decide) rfl ?_
  refine qr_aload_n 25 rfl rfl rfl ?_
  refine qr_get 28 rfl rfl rfl (by decide) rfl ?_
  refine qr_iload 30 rfl rfl rfl ?_
  refine qr_sipush 33 rfl (by decide) rfl ?_
  refine qr_idiv 34 rfl r4 (by decide) rfl ?_
  refine qr_iastore 35 rfl (by decide) rfl (by omega) (by decide) rfl ?_
  refine qy_wA (qw_r α5 37 (qzu (α5 37) ((σ 34 7) : Int).toNat (x4 / 10000))) rfl (fun α9 e10 => ?_)
  have hI11 : qI σ α9 κ ρ := by rw [e10]; exact qI_r hI7 37 _ rfl (show (-2147483648) ≤ (x4 / 10000) ∧ (x4 / 10000) ≤ 2147483647 by omega)
  have hF12 : qFr [(34, 7)] [35, 36, 37, 38, 39, 40, 41] σ α σ α9 := by rw [e10]; exact qFr_r hF8 37 _ (by decide)
  refine qr_aload_n 36 rfl rfl rfl ?_
  refine qr_get 39 rfl rfl rfl (by decide) rfl ?_
  refine qr_aload_n 40 rfl rfl rfl ?_
  refine qr_get 43 rfl rfl rfl (by decide) rfl ?_
  refine qr_iload 45 rfl rfl rfl ?_
  refine qr_sipush 48 rfl (by decide) rfl ?_
  refine qr_irem 49 rfl r4 (by decide) rfl ?_
  refine qr_iastore 50 rfl (by decide) rfl (by omega) (by decide) rfl ?_
  refine qy_wA (qw_r α9 38 (qzu (α9 38) ((σ 34 7) : Int).toNat (x4 % 10000))) rfl (fun α13 e14 => ?_)
  have hI15 : qI σ α13 κ ρ := by rw [e14]; exact qI_r hI11 38 _ rfl (show (-2147483648) ≤ (x4 % 10000) ∧ (x4 % 10000) ≤ 2147483647 by omega)
  have hF16 : qFr [(34, 7)] [35, 36, 37, 38, 39, 40, 41] σ α σ α13 := by rw [e14]; exact qFr_r hF12 38 _ (by decide)
  refine qr_aload_n 51 rfl rfl rfl ?_
  refine qr_get 54 rfl rfl rfl (by decide) rfl ?_
  refine qr_aload_n 55 rfl rfl rfl ?_
  refine qr_get 58 rfl rfl rfl (by decide) rfl ?_
  refine qr_iload 60 rfl rfl rfl ?_
  refine qr_iastore 61 rfl (by decide) rfl (by omega) (by decide) rfl ?_
  refine qy_wA (qw_r α13 39 (qzu (α13 39) ((σ 34 7) : Int).toNat x5)) rfl (fun α17 e18 => ?_)
  have hI19 : qI σ α17 κ ρ := by rw [e18]; exact qI_r hI15 39 _ rfl (show (-2147483648) ≤ x5 ∧ x5 ≤ 2147483647 by omega)
  have hF20 : qFr [(34, 7)] [35, 36, 37, 38, 39, 40, 41] σ α σ α17 := by rw [e18]; exact qFr_r hF16 39 _ (by decide)
  refine qr_aload_n 62 rfl rfl rfl ?_
  refine qr_get 65 rfl rfl rfl (by decide) rfl ?_
  refine qr_aload_n 66 rfl rfl rfl ?_
  refine qr_get 69 rfl rfl rfl (by decide) rfl ?_
  refine qr_aload_n 70 rfl rfl rfl ?_
  refine qr_get 73 rfl rfl rfl (by decide) rfl ?_
  refine qr_aload_n 74 rfl rfl rfl ?_
  refine qr_get 77 rfl rfl rfl (by decide) rfl ?_
  refine qr_iaload 78 rfl rfl (by omega) (by decide) rfl ?_
  refine qr_topI (fun v21 hv21 => ?_)
  have hs22 : (-2147483648) ≤ v21 ∧ v21 ≤ 2147483647 := by rw [hv21]; exact hI19.2.1 38 _ (show _ < 60 by omega)
  have hrv21 : v21 = (qzu (α 38) ((σ 34 7) : Int).toNat (x4 % 10000)) ((σ 34 7) : Int).toNat := hv21.trans (congrFun ((congrFun e18 38).trans ((qw_r_ne (by decide)).trans ((congrFun e14 38).trans (qw_r_eq.trans (congrArg (fun f => qzu f ((σ 34 7) : Int).toNat (x4 % 10000)) ((congrFun e10 38).trans ((qw_r_ne (by decide)).trans ((congrFun e6 38).trans ((qw_r_ne (by decide)).trans ((congrFun e2 38).trans ((qw_r_ne (by decide)).trans rfl))))))))))) _)
  refine qr_iload_n 79 rfl rfl rfl ?_
  refine qr_iconst 80 rfl rfl ?_
  refine qr_icmp_ne 88 83 rfl rfl rfl (qrg r2 (by decide) (by decide)) (by decide) (fun h23 => ?_) (fun h23 => ?_)
  · skip
    refine qr_iconst 89 rfl rfl ?_
    refine qr_iadd 90 rfl rfl ?_
    refine qr_iastore 91 rfl (by decide) rfl (by omega) (by decide) rfl ?_
    refine qy_wA (qw_r α17 40 (qzu (α17 40) ((σ 34 7) : Int).toNat (v21 + 0))) rfl (fun α24 e25 => ?_)
    have hI26 : qI σ α24 κ ρ := by rw [e25]; exact qI_r hI19 40 _ rfl (show (-2147483648) ≤ (v21 + 0) ∧ (v21 + 0) ≤ 2147483647 by omega)
    have hF27 : qFr [(34, 7)] [35, 36, 37, 38, 39, 40, 41] σ α σ α24 := by rw [e25]; exact qFr_r hF20 40 _ (by decide)
    refine qr_aload_n 92 rfl rfl rfl ?_
    as_aux_lemma =>
      refine qr_get 95 rfl rfl rfl (by decide) rfl ?_
      refine qr_aload_n 96 rfl rfl rfl ?_
      refine qr_get 99 rfl rfl rfl (by decide) rfl ?_
      refine qr_lload_n 100 rfl rfl rfl ?_
      refine qr_lastore 101 rfl (by decide) rfl (by omega) (by decide) rfl ?_
      refine qy_wA (qw_r α24 41 (qzu (α24 41) ((σ 34 7) : Int).toNat x3)) rfl (fun α28 e29 => ?_)
      have hI30 : qI σ α28 κ ρ := by rw [e29]; exact qI_r hI26 41 _ rfl (show (-9223372036854775808) ≤ x3 ∧ x3 ≤ 9223372036854775807 by omega)
      have hF31 : qFr [(34, 7)] [35, 36, 37, 38, 39, 40, 41] σ α σ α28 := by rw [e29]; exact qFr_r hF27 41 _ (by decide)
      refine qr_aload_n 102 rfl rfl rfl ?_
      refine qr_dup 103 rfl rfl rfl ?_
      refine qr_get 106 rfl rfl rfl (by decide) rfl ?_
      refine qr_dup_x1 107 rfl rfl rfl rfl ?_
      refine qr_iconst 108 rfl rfl ?_
      refine qr_iadd 109 rfl rfl ?_
      refine qr_put 112 rfl (by decide) rfl (Nat.le_of_ble_eq_true rfl) (Nat.le_of_ble_eq_true rfl) (Or.inl rfl) (qr_fitI rfl _) rfl ?_
      refine qy_wS (qw_s σ 34 7 ((σ 34 7) + 1)) rfl (fun σ32 e33 => ?_)
      have hI34 : qI σ32 α28 κ ρ := by rw [e33]; exact qI_s hI30 34 7 rfl (show 0 ≤ ((σ 34 7) + 1) ∧ ((σ 34 7) + 1) ≤ 60 by omega)
      have hF35 : qFr [(34, 7)] [35, 36, 37, 38, 39, 40, 41] σ α σ32 α28 := by rw [e33]; exact qFr_s hF31 34 7 _ (by decide)
      refine qr_retI rfl rfl (by decide) (by decide) ?_
      exact ⟨_, _, rfl, hI34, hF35, (by have hw : σ32 34 7 = ((σ 34 7) + 1) := (congrFun (congrFun e33 34) 7).trans rfl; omega), (σ 34 7), rfl, (by omega), by omega, ((congrFun e29 35).trans ((qw_r_ne (by decide)).trans ((congrFun e25 35).trans ((qw_r_ne (by decide)).trans ((congrFun e18 35).trans ((qw_r_ne (by decide)).trans ((congrFun e14 35).trans ((qw_r_ne (by decide)).trans ((congrFun e10 35).trans ((qw_r_ne (by decide)).trans ((congrFun e6 35).trans ((qw_r_ne (by decide)).trans ((congrFun e2 35).trans (qw_r_eq.trans (congrArg (fun f => qzu f ((σ 34 7) : Int).toNat x2) rfl))))))))))))))), ((congrFun e29 36).trans ((qw_r_ne (by decide)).trans ((congrFun e25 36).trans ((qw_r_ne (by decide)).trans ((congrFun e18 36).trans ((qw_r_ne (by decide)).trans ((congrFun e14 36).trans ((qw_r_ne (by decide)).trans ((congrFun e10 36).trans ((qw_r_ne (by decide)).trans ((congrFun e6 36).trans (qw_r_eq.trans (congrArg (fun f => qzu f ((σ 34 7) : Int).toNat x1) ((congrFun e2 36).trans ((qw_r_ne (by decide)).trans rfl))))))))))))))), ((congrFun e29 37).trans ((qw_r_ne (by decide)).trans ((congrFun e25 37).trans ((qw_r_ne (by decide)).trans ((congrFun e18 37).trans ((qw_r_ne (by decide)).trans ((congrFun e14 37).trans ((qw_r_ne (by decide)).trans ((congrFun e10 37).trans (qw_r_eq.trans (congrArg (fun f => qzu f ((σ 34 7) : Int).toNat (x4 / 10000)) ((congrFun e6 37).trans ((qw_r_ne (by decide)).trans ((congrFun e2 37).trans ((qw_r_ne (by decide)).trans rfl))))))))))))))), ((congrFun e29 38).trans ((qw_r_ne (by decide)).trans ((congrFun e25 38).trans ((qw_r_ne (by decide)).trans ((congrFun e18 38).trans ((qw_r_ne (by decide)).trans ((congrFun e14 38).trans (qw_r_eq.trans (congrArg (fun f => qzu f ((σ 34 7) : Int).toNat (x4 % 10000)) ((congrFun e10 38).trans ((qw_r_ne (by decide)).trans ((congrFun e6 38).trans ((qw_r_ne (by decide)).trans ((congrFun e2 38).trans ((qw_r_ne (by decide)).trans rfl))))))))))))))), ((congrFun e29 39).trans ((qw_r_ne (by decide)).trans ((congrFun e25 39).trans ((qw_r_ne (by decide)).trans ((congrFun e18 39).trans (qw_r_eq.trans (congrArg (fun f => qzu f ((σ 34 7) : Int).toNat x5) ((congrFun e14 39).trans ((qw_r_ne (by decide)).trans ((congrFun e10 39).trans ((qw_r_ne (by decide)).trans ((congrFun e6 39).trans ((qw_r_ne (by decide)).trans ((congrFun e2 39).trans ((qw_r_ne (by decide)).trans rfl))))))))))))))), ((((congrFun e29 40).trans ((qw_r_ne (by decide)).trans ((congrFun e25 40).trans (qw_r_eq.trans (congrArg (fun f => qzu f ((σ 34 7) : Int).toNat (v21 + 0)) ((congrFun e18 40).trans ((qw_r_ne (by decide)).trans ((congrFun e14 40).trans ((qw_r_ne (by decide)).trans ((congrFun e10 40).trans ((qw_r_ne (by decide)).trans ((congrFun e6 40).trans ((qw_r_ne (by decide)).trans ((congrFun e2 40).trans ((qw_r_ne (by decide)).trans rfl)))))))))))))))).trans (by have hw := hrv21.trans (qzu_at _ _ _); rw [if_neg (show ¬ x2 = 2 by omega)]; congr 1; omega)), ((congrFun e29 41).trans (qw_r_eq.trans (congrArg (fun f => qzu f ((σ 34 7) : Int).toNat x3) ((congrFun e25 41).trans ((qw_r_ne (by decide)).trans ((congrFun e18 41).trans ((qw_r_ne (by decide)).trans ((congrFun e14 41).trans ((qw_r_ne (by decide)).trans ((congrFun e10 41).trans ((qw_r_ne (by decide)).trans ((congrFun e6 41).trans ((qw_r_ne (by decide)).trans ((congrFun e2 41).trans ((qw_r_ne (by decide)).trans rfl)))))))))))))))⟩
  · skip
    refine qr_iload 85 rfl rfl rfl ?_
    refine qr_goto 89 rfl rfl ?_
    refine qr_iadd 90 rfl rfl ?_
    refine qy_canE (fun v36 hv36 hev36 => ?_)
    refine qr_iastore 91 rfl (by decide) rfl (by omega) (by decide) rfl ?_
    refine qy_wA (qw_r α17 40 (qzu (α17 40) ((σ 34 7) : Int).toNat v36)) rfl (fun α37 e38 => ?_)
    have hI39 : qI σ α37 κ ρ := by rw [e38]; exact qI_r hI19 40 _ rfl (show (-2147483648) ≤ v36 ∧ v36 ≤ 2147483647 by omega)
    have hF40 : qFr [(34, 7)] [35, 36, 37, 38, 39, 40, 41] σ α σ α37 := by rw [e38]; exact qFr_r hF20 40 _ (by decide)
    as_aux_lemma =>
      refine qr_aload_n 92 rfl rfl rfl ?_
      refine qr_get 95 rfl rfl rfl (by decide) rfl ?_
      refine qr_aload_n 96 rfl rfl rfl ?_
      refine qr_get 99 rfl rfl rfl (by decide) rfl ?_
      refine qr_lload_n 100 rfl rfl rfl ?_
      refine qr_lastore 101 rfl (by decide) rfl (by omega) (by decide) rfl ?_
      refine qy_wA (qw_r α37 41 (qzu (α37 41) ((σ 34 7) : Int).toNat x3)) rfl (fun α41 e42 => ?_)
      have hI43 : qI σ α41 κ ρ := by rw [e42]; exact qI_r hI39 41 _ rfl (show (-9223372036854775808) ≤ x3 ∧ x3 ≤ 9223372036854775807 by omega)
      have hF44 : qFr [(34, 7)] [35, 36, 37, 38, 39, 40, 41] σ α σ α41 := by rw [e42]; exact qFr_r hF40 41 _ (by decide)
      refine qr_aload_n 102 rfl rfl rfl ?_
      refine qr_dup 103 rfl rfl rfl ?_
      refine qr_get 106 rfl rfl rfl (by decide) rfl ?_
      refine qr_dup_x1 107 rfl rfl rfl rfl ?_
      refine qr_iconst 108 rfl rfl ?_
      refine qr_iadd 109 rfl rfl ?_
      refine qr_put 112 rfl (by decide) rfl (Nat.le_of_ble_eq_true rfl) (Nat.le_of_ble_eq_true rfl) (Or.inl rfl) (qr_fitI rfl _) rfl ?_
      refine qy_wS (qw_s σ 34 7 ((σ 34 7) + 1)) rfl (fun σ45 e46 => ?_)
      have hI47 : qI σ45 α41 κ ρ := by rw [e46]; exact qI_s hI43 34 7 rfl (show 0 ≤ ((σ 34 7) + 1) ∧ ((σ 34 7) + 1) ≤ 60 by omega)
      have hF48 : qFr [(34, 7)] [35, 36, 37, 38, 39, 40, 41] σ α σ45 α41 := by rw [e46]; exact qFr_s hF44 34 7 _ (by decide)
      refine qr_retI rfl rfl (by decide) (by decide) ?_
      exact ⟨_, _, rfl, hI47, hF48, (by have hw : σ45 34 7 = ((σ 34 7) + 1) := (congrFun (congrFun e46 34) 7).trans rfl; omega), (σ 34 7), rfl, (by omega), by omega, ((congrFun e42 35).trans ((qw_r_ne (by decide)).trans ((congrFun e38 35).trans ((qw_r_ne (by decide)).trans ((congrFun e18 35).trans ((qw_r_ne (by decide)).trans ((congrFun e14 35).trans ((qw_r_ne (by decide)).trans ((congrFun e10 35).trans ((qw_r_ne (by decide)).trans ((congrFun e6 35).trans ((qw_r_ne (by decide)).trans ((congrFun e2 35).trans (qw_r_eq.trans (congrArg (fun f => qzu f ((σ 34 7) : Int).toNat x2) rfl))))))))))))))), ((congrFun e42 36).trans ((qw_r_ne (by decide)).trans ((congrFun e38 36).trans ((qw_r_ne (by decide)).trans ((congrFun e18 36).trans ((qw_r_ne (by decide)).trans ((congrFun e14 36).trans ((qw_r_ne (by decide)).trans ((congrFun e10 36).trans ((qw_r_ne (by decide)).trans ((congrFun e6 36).trans (qw_r_eq.trans (congrArg (fun f => qzu f ((σ 34 7) : Int).toNat x1) ((congrFun e2 36).trans ((qw_r_ne (by decide)).trans rfl))))))))))))))), ((congrFun e42 37).trans ((qw_r_ne (by decide)).trans ((congrFun e38 37).trans ((qw_r_ne (by decide)).trans ((congrFun e18 37).trans ((qw_r_ne (by decide)).trans ((congrFun e14 37).trans ((qw_r_ne (by decide)).trans ((congrFun e10 37).trans (qw_r_eq.trans (congrArg (fun f => qzu f ((σ 34 7) : Int).toNat (x4 / 10000)) ((congrFun e6 37).trans ((qw_r_ne (by decide)).trans ((congrFun e2 37).trans ((qw_r_ne (by decide)).trans rfl))))))))))))))), ((congrFun e42 38).trans ((qw_r_ne (by decide)).trans ((congrFun e38 38).trans ((qw_r_ne (by decide)).trans ((congrFun e18 38).trans ((qw_r_ne (by decide)).trans ((congrFun e14 38).trans (qw_r_eq.trans (congrArg (fun f => qzu f ((σ 34 7) : Int).toNat (x4 % 10000)) ((congrFun e10 38).trans ((qw_r_ne (by decide)).trans ((congrFun e6 38).trans ((qw_r_ne (by decide)).trans ((congrFun e2 38).trans ((qw_r_ne (by decide)).trans rfl))))))))))))))), ((congrFun e42 39).trans ((qw_r_ne (by decide)).trans ((congrFun e38 39).trans ((qw_r_ne (by decide)).trans ((congrFun e18 39).trans (qw_r_eq.trans (congrArg (fun f => qzu f ((σ 34 7) : Int).toNat x5) ((congrFun e14 39).trans ((qw_r_ne (by decide)).trans ((congrFun e10 39).trans ((qw_r_ne (by decide)).trans ((congrFun e6 39).trans ((qw_r_ne (by decide)).trans ((congrFun e2 39).trans ((qw_r_ne (by decide)).trans rfl))))))))))))))), ((((congrFun e42 40).trans ((qw_r_ne (by decide)).trans ((congrFun e38 40).trans (qw_r_eq.trans (congrArg (fun f => qzu f ((σ 34 7) : Int).toNat v36) ((congrFun e18 40).trans ((qw_r_ne (by decide)).trans ((congrFun e14 40).trans ((qw_r_ne (by decide)).trans ((congrFun e10 40).trans ((qw_r_ne (by decide)).trans ((congrFun e6 40).trans ((qw_r_ne (by decide)).trans ((congrFun e2 40).trans ((qw_r_ne (by decide)).trans rfl)))))))))))))))).trans (by have hw := hrv21.trans (qzu_at _ _ _); rw [if_pos (show x2 = 2 by omega)]; congr 1; have hz := qz_val hev36 (by omega) (by omega); omega)), ((congrFun e42 41).trans (qw_r_eq.trans (congrArg (fun f => qzu f ((σ 34 7) : Int).toNat x3) ((congrFun e38 41).trans ((qw_r_ne (by decide)).trans ((congrFun e18 41).trans ((qw_r_ne (by decide)).trans ((congrFun e14 41).trans ((qw_r_ne (by decide)).trans ((congrFun e10 41).trans ((qw_r_ne (by decide)).trans ((congrFun e6 41).trans ((qw_r_ne (by decide)).trans ((congrFun e2 41).trans ((qw_r_ne (by decide)).trans rfl)))))))))))))))⟩

set_option maxHeartbeats 4000000 in
set_option maxRecDepth 20000 in
/-- OneRoof.peace -/
theorem sf_69_16z {L : Nat} {xs : Nat → Int} {vb : Bool} {d : Nat} {σ α : Nat → Nat → Int} {κ : Nat → Option Nat} {ρ : Nat} {x1 : Int} {x2 : Int} {x3 : Int} {x4 : Int} (hI : qI σ α κ ρ) (r1 : (-2147483648) ≤ x1 ∧ x1 ≤ 2147483647) (r2 : (-9223372036854775808) ≤ x2 ∧ x2 ≤ 9223372036854775807) (r3 : (-2147483648) ≤ x3 ∧ x3 ≤ 2147483647) (r4 : (-2147483648) ≤ x4 ∧ x4 ≤ 2147483647) : qm_T (qe L xs vb) (d + 3) 69 [.ref 16, .int (qz x1), .long (ql x2), .int (qz x3), .int (qz x4)] (qw σ α κ ρ) (fun r w' => ∃ σ' α', w' = qw σ' α' κ ρ ∧ qI σ' α' κ ρ ∧ qFr [(34, 7)] [35, 36, 37, 38, 39, 40, 41] σ α σ' α' ∧ ∃ v : Int, r = some (.int (qz v)) ∧ ((-2147483648) ≤ v ∧ v ≤ 2147483647) ∧ (((v = -1 ∧ ¬ (0 ≤ x1 ∧ x1 % 10 ≤ 5 ∧ x1 / 10 < σ 17 6 ∧ 0 ≤ x2 ∧ x2 ≤ 4294967295 ∧ 0 ≤ x3 ∧ x3 / 10000 ≤ x3 % 10000 ∧ x3 % 10000 ≤ 2399 ∧ 0 ≤ x4 ∧ x4 ≤ 240) ∧ σ' 34 7 = σ 34 7) ∧ α' 35 = α 35 ∧ α' 36 = α 36 ∧ α' 37 = α 37 ∧ α' 38 = α 38 ∧ α' 39 = α 39 ∧ α' 40 = α 40 ∧ α' 41 = α 41) ∨ ((v = -3 ∧ (0 ≤ x1 ∧ x1 % 10 ≤ 5 ∧ x1 / 10 < σ 17 6 ∧ 0 ≤ x2 ∧ x2 ≤ 4294967295 ∧ 0 ≤ x3 ∧ x3 / 10000 ≤ x3 % 10000 ∧ x3 % 10000 ≤ 2399 ∧ 0 ≤ x4 ∧ x4 ≤ 240) ∧ 60 ≤ σ 34 7 ∧ σ' 34 7 = σ 34 7) ∧ α' 35 = α 35 ∧ α' 36 = α 36 ∧ α' 37 = α 37 ∧ α' 38 = α 38 ∧ α' 39 = α 39 ∧ α' 40 = α 40 ∧ α' 41 = α 41) ∨ ((v = σ 34 7 ∧ (0 ≤ x1 ∧ x1 % 10 ≤ 5 ∧ x1 / 10 < σ 17 6 ∧ 0 ≤ x2 ∧ x2 ≤ 4294967295 ∧ 0 ≤ x3 ∧ x3 / 10000 ≤ x3 % 10000 ∧ x3 % 10000 ≤ 2399 ∧ 0 ≤ x4 ∧ x4 ≤ 240) ∧ σ 34 7 < 60 ∧ σ' 34 7 = σ 34 7 + 1) ∧ α' 35 = qzu (α 35) (σ 34 7 : Int).toNat (x1 % 10) ∧ α' 36 = qzu (α 36) (σ 34 7 : Int).toNat (x1 / 10) ∧ α' 37 = qzu (α 37) (σ 34 7 : Int).toNat (x3 / 10000) ∧ α' 38 = qzu (α 38) (σ 34 7 : Int).toNat (x3 % 10000) ∧ α' 39 = qzu (α 39) (σ 34 7 : Int).toNat (x4) ∧ α' 40 = qzu (α 40) (σ 34 7 : Int).toNat (x3 % 10000 + (if x1 % 10 = 2 then x4 else 0)) ∧ α' 41 = qzu (α 41) (σ 34 7 : Int).toNat (x2)))) := by
  refine qr_start (d := d + 2) qv_e69 (Nat.le_of_ble_eq_true rfl) ?_
  show qr_W (qe L xs vb) (d + 2) qx_e69 _ (0, [(0, .ref 16), (1, .int (qz x1)), (2, .long (ql x2)), (4, .int (qz x3)), (5, .int (qz x4))], [], _, 0, 0)
  have hF0 := qFr_rf [(34, 7)] [35, 36, 37, 38, 39, 40, 41] σ α
  have hz17_6 : 0 ≤ σ 17 6 ∧ σ 17 6 ≤ 32 := hI.1 17 6
  have hz34_7 : 0 ≤ σ 34 7 ∧ σ 34 7 ≤ 60 := hI.1 34 7
  refine qr_iload_n 1 rfl rfl rfl ?_
  refine qr_if_lt 26 4 rfl rfl rfl r1 (fun h1 => ?_) (fun h1 => ?_)
  · skip
    refine qr_iconst 27 rfl rfl ?_
    refine qr_retI rfl rfl (by decide) (by decide) ?_
    have hw2 : σ 34 7 = (σ 34 7) := rfl
    exact ⟨_, _, rfl, hI, hF0, (-1), rfl, (by decide), (Or.inl ⟨by omega, rfl, rfl, rfl, rfl, rfl, rfl, rfl⟩)⟩
  · skip
    refine qr_iload_n 5 rfl rfl rfl ?_
    refine qr_bipush 7 rfl (by decide) rfl ?_
    refine qr_irem 8 rfl (by omega) (by decide) rfl ?_
    refine qr_iconst 9 rfl rfl ?_
    refine qr_icmp_gt 26 12 rfl rfl rfl (by omega) (by decide) (fun h3 => ?_) (fun h3 => ?_)
    · skip
      refine qr_iconst 27 rfl rfl ?_
      refine qr_retI rfl rfl (by decide) (by decide) ?_
      have hw4 : σ 34 7 = (σ 34 7) := rfl
      exact ⟨_, _, rfl, hI, hF0, (-1), rfl, (by decide), (Or.inl ⟨by omega, rfl, rfl, rfl, rfl, rfl, rfl, rfl⟩)⟩
    · skip
      refine qr_aload_n 13 rfl rfl rfl ?_
      refine qr_get 16 rfl rfl rfl (by decide) rfl ?_
      refine qr_iload_n 17 rfl rfl rfl ?_
      refine qr_bipush 19 rfl (by decide) rfl ?_
      refine qr_idiv 20 rfl (by omega) (by decide) rfl ?_
      refine qr_callN 23 rfl rfl rfl (sf_40_17 (d := d + 1) hI (by omega)) ?_
      have hs7 : 0 ≤ σ 17 6 ∧ σ 17 6 ≤ 32 := hI.1 17 6
      rintro _ _ ⟨rfl, v5, rfl, hv5, hp6⟩
      show qr_W (qe L xs vb) (d + 2) qx_e69 _ (23, _, [.int (qz v5)], qw σ α κ ρ, 0, 0)
      refine qr_if_ne 28 26 rfl rfl rfl (qrg hv5 (by decide) (by decide)) (fun h8 => ?_) (fun h8 => ?_)
      · skip
        refine qr_lload_n 29 rfl rfl rfl ?_
        refine qr_lconst 30 rfl rfl ?_
        refine qy_vl 0 rfl ?_
        refine qr_lc_lt 43 34 rfl rfl rfl rfl r2 (by decide) (fun h9 => ?_) (fun h9 => ?_)
        · skip
          refine qr_iconst 44 rfl rfl ?_
          refine qr_retI rfl rfl (by decide) (by decide) ?_
          have hw10 : σ 34 7 = (σ 34 7) := rfl
          exact ⟨_, _, rfl, hI, hF0, (-1), rfl, (by decide), (Or.inl ⟨by omega, rfl, rfl, rfl, rfl, rfl, rfl, rfl⟩)⟩
        · skip
          refine qr_lload_n 35 rfl rfl rfl ?_
          refine qr_bipush 37 rfl (by decide) rfl ?_
          refine qr_lushr 38 rfl rfl ?_
          refine qy_vl (x2 / 4294967296) (ql_ushr32 (by omega)) ?_
          refine qr_lconst 39 rfl rfl ?_
          refine qy_vl 0 rfl ?_
          refine qr_lc_eq 45 43 rfl rfl rfl rfl (by omega) (by decide) (fun h11 => ?_) (fun h11 => ?_)
          · skip
            refine qr_iload 47 rfl rfl rfl ?_
            refine qr_callN 50 rfl rfl rfl (sf_70 (d := d + 0) hI r3) ?_
            rintro _ _ ⟨rfl, v12, rfl, hv12, hp13⟩
            show qr_W (qe L xs vb) (d + 2) qx_e69 _ (50, _, [.int (qz v12)], qw σ α κ ρ, 0, 0)
            refine qr_if_eq 66 53 rfl rfl rfl (qrg hv12 (by decide) (by decide)) (fun h14 => ?_) (fun h14 => ?_)
            · skip
              refine qr_iconst 67 rfl rfl ?_
              refine qr_retI rfl rfl (by decide) (by decide) ?_
              have hw15 : σ 34 7 = (σ 34 7) := rfl
              exact ⟨_, _, rfl, hI, hF0, (-1), rfl, (by decide), (Or.inl ⟨by omega, rfl, rfl, rfl, rfl, rfl, rfl, rfl⟩)⟩
            · skip
              refine qr_iload 55 rfl rfl rfl ?_
              refine qr_if_lt 66 58 rfl rfl rfl r4 (fun h16 => ?_) (fun h16 => ?_)
              · skip
                refine qr_iconst 67 rfl rfl ?_
                refine qr_retI rfl rfl (by decide) (by decide) ?_
                have hw17 : σ 34 7 = (σ 34 7) := rfl
                exact ⟨_, _, rfl, hI, hF0, (-1), rfl, (by decide), (Or.inl ⟨by omega, rfl, rfl, rfl, rfl, rfl, rfl, rfl⟩)⟩
              · skip
                refine qr_iload 60 rfl rfl rfl ?_
                refine qr_sipush 63 rfl (by decide) rfl ?_
                refine qr_icmp_le 68 66 rfl rfl rfl r4 (by decide) (fun h18 => ?_) (fun h18 => ?_)
                · skip
                  refine qr_aload_n 69 rfl rfl rfl ?_
                  refine qr_get 72 rfl rfl rfl (by decide) rfl ?_
                  refine qr_get 75 rfl rfl rfl (by decide) rfl ?_
                  refine qr_bipush 77 rfl (by decide) rfl ?_
                  refine qr_icmp_lt 83 80 rfl rfl rfl (qrg hz34_7 (by decide) (by decide)) (by decide) (fun h19 => ?_) (fun h19 => ?_)
                  · skip
                    refine qr_aload_n 84 rfl rfl rfl ?_
                    refine qr_get 87 rfl rfl rfl (by decide) rfl ?_
                    refine qr_iload_n 88 rfl rfl rfl ?_
                    refine qr_bipush 90 rfl (by decide) rfl ?_
                    refine qr_idiv 91 rfl (by omega) (by decide) rfl ?_
                    refine qr_iload_n 92 rfl rfl rfl ?_
                    refine qr_bipush 94 rfl (by decide) rfl ?_
                    refine qr_irem 95 rfl (by omega) (by decide) rfl ?_
                    refine qr_lload_n 96 rfl rfl rfl ?_
                    refine qr_iload 98 rfl rfl rfl ?_
                    refine qr_iload 100 rfl rfl rfl ?_
                    have hs20 : 0 ≤ σ 34 7 ∧ σ 34 7 ≤ 60 := hI.1 34 7
                    refine qr_callN 103 rfl rfl rfl (sf_71_34z (d := d + 1) hI (by omega) (by omega) r2 (by omega) (by omega) (by omega)) ?_
                    have hs31 : 0 ≤ σ 34 7 ∧ σ 34 7 ≤ 60 := hI.1 34 7
                    rintro _ _ ⟨σ32, α33, rfl, hI34, hG35, hw30, v21, rfl, hv21, hp22, hx23, hx24, hx25, hx26, hx27, hx28, hx29⟩
                    have hF36 : qFr [(34, 7)] [35, 36, 37, 38, 39, 40, 41] σ α σ32 α33 := qFr_t hF0 hG35 (by decide) (by decide)
                    have hs37 : 0 ≤ σ32 34 7 ∧ σ32 34 7 ≤ 60 := hI34.1 34 7
                    show qr_W (qe L xs vb) (d + 2) qx_e69 _ (103, _, [.int (qz v21)], qw σ32 α33 κ ρ, 0, 0)
                    refine qr_retI rfl rfl (by decide) (by decide) ?_
                    have hw38 : σ32 34 7 = (σ32 34 7) := rfl
                    exact ⟨_, _, rfl, hI34, hF36, v21, rfl, (qrg hv21 (by decide) (by decide)), (Or.inr (Or.inr (⟨by omega, (hx23.trans (congrArg (fun f => qzu (f) (σ 34 7 : Int).toNat ((x1 % 10))) rfl)), (hx24.trans (congrArg (fun f => qzu (f) (σ 34 7 : Int).toNat ((x1 / 10))) rfl)), (hx25.trans (congrArg (fun f => qzu (f) (σ 34 7 : Int).toNat (x3 / 10000)) rfl)), (hx26.trans (congrArg (fun f => qzu (f) (σ 34 7 : Int).toNat (x3 % 10000)) rfl)), (hx27.trans (congrArg (fun f => qzu (f) (σ 34 7 : Int).toNat (x4)) rfl)), (hx28.trans (congrArg (fun f => qzu (f) (σ 34 7 : Int).toNat (x3 % 10000 + (if (x1 % 10) = 2 then x4 else 0))) rfl)), (hx29.trans (congrArg (fun f => qzu (f) (σ 34 7 : Int).toNat (x2)) rfl))⟩)))⟩
                  · skip
                    refine qr_bipush 82 rfl (by decide) rfl ?_
                    refine qr_retI rfl rfl (by decide) (by decide) ?_
                    have hw39 : σ 34 7 = (σ 34 7) := rfl
                    exact ⟨_, _, rfl, hI, hF0, (-3), rfl, (by decide), (Or.inr (Or.inl ⟨by omega, rfl, rfl, rfl, rfl, rfl, rfl, rfl⟩))⟩
                · skip
                  refine qr_iconst 67 rfl rfl ?_
                  refine qr_retI rfl rfl (by decide) (by decide) ?_
                  have hw40 : σ 34 7 = (σ 34 7) := rfl
                  exact ⟨_, _, rfl, hI, hF0, (-1), rfl, (by decide), (Or.inl ⟨by omega, rfl, rfl, rfl, rfl, rfl, rfl, rfl⟩)⟩
          · skip
            refine qr_iconst 44 rfl rfl ?_
            refine qr_retI rfl rfl (by decide) (by decide) ?_
            have hw41 : σ 34 7 = (σ 34 7) := rfl
            exact ⟨_, _, rfl, hI, hF0, (-1), rfl, (by decide), (Or.inl ⟨by omega, rfl, rfl, rfl, rfl, rfl, rfl, rfl⟩)⟩
      · skip
        refine qr_iconst 27 rfl rfl ?_
        refine qr_retI rfl rfl (by decide) (by decide) ?_
        have hw42 : σ 34 7 = (σ 34 7) := rfl
        exact ⟨_, _, rfl, hI, hF0, (-1), rfl, (by decide), (Or.inl ⟨by omega, rfl, rfl, rfl, rfl, rfl, rfl, rfl⟩)⟩

set_option maxHeartbeats 4000000 in
set_option maxRecDepth 20000 in
/-- OneRoofModel.peace -/
theorem sf_198_86z {L : Nat} {xs : Nat → Int} {vb : Bool} {d : Nat} {σ α : Nat → Nat → Int} {κ : Nat → Option Nat} {ρ : Nat} {x1 : Int} {x2 : Int} {x3 : Int} {x4 : Int} (hI : qI σ α κ ρ) (r1 : (-2147483648) ≤ x1 ∧ x1 ≤ 2147483647) (r2 : (-9223372036854775808) ≤ x2 ∧ x2 ≤ 9223372036854775807) (r3 : (-2147483648) ≤ x3 ∧ x3 ≤ 2147483647) (r4 : (-2147483648) ≤ x4 ∧ x4 ≤ 2147483647) : qm_T (qe L xs vb) (d + 3) 198 [.ref 86, .int (qz x1), .long (ql x2), .int (qz x3), .int (qz x4)] (qw σ α κ ρ) (fun r w' => ∃ σ' α', w' = qw σ' α' κ ρ ∧ qI σ' α' κ ρ ∧ qFr [(86, 24)] [87, 102, 103, 104, 105] σ α σ' α' ∧ ∃ v : Int, r = some (.int (qz v)) ∧ ((-2147483648) ≤ v ∧ v ≤ 2147483647) ∧ ((v = -1 ∧ ¬ (0 ≤ x1 ∧ x1 % 10 ≤ 5 ∧ x1 / 10 < σ 86 6 ∧ 0 ≤ x2 ∧ x2 ≤ 4294967295 ∧ 0 ≤ x3 ∧ x3 / 10000 ≤ x3 % 10000 ∧ x3 % 10000 ≤ 2399 ∧ 0 ≤ x4 ∧ x4 ≤ 240) ∧ σ' 86 24 = σ 86 24 ∧ α' 102 = α 102 ∧ α' 103 = α 103 ∧ α' 104 = α 104 ∧ α' 105 = α 105 ∧ α' 87 = α 87) ∨ (v = -3 ∧ (0 ≤ x1 ∧ x1 % 10 ≤ 5 ∧ x1 / 10 < σ 86 6 ∧ 0 ≤ x2 ∧ x2 ≤ 4294967295 ∧ 0 ≤ x3 ∧ x3 / 10000 ≤ x3 % 10000 ∧ x3 % 10000 ≤ 2399 ∧ 0 ≤ x4 ∧ x4 ≤ 240) ∧ 60 ≤ σ 86 24 ∧ σ' 86 24 = σ 86 24 ∧ α' 102 = α 102 ∧ α' 103 = α 103 ∧ α' 104 = α 104 ∧ α' 105 = α 105 ∧ α' 87 = α 87) ∨ (v = σ 86 24 ∧ (0 ≤ x1 ∧ x1 % 10 ≤ 5 ∧ x1 / 10 < σ 86 6 ∧ 0 ≤ x2 ∧ x2 ≤ 4294967295 ∧ 0 ≤ x3 ∧ x3 / 10000 ≤ x3 % 10000 ∧ x3 % 10000 ≤ 2399 ∧ 0 ≤ x4 ∧ x4 ≤ 240) ∧ σ 86 24 < 60 ∧ σ' 86 24 = σ 86 24 + 1 ∧ α' 102 = qzu (α 102) (σ 86 24 : Int).toNat (x1 / 10) ∧ α' 103 = qzu (α 103) (σ 86 24 : Int).toNat (x3 / 10000) ∧ α' 104 = qzu (α 104) (σ 86 24 : Int).toNat (x3 % 10000) ∧ α' 105 = qzu (α 105) (σ 86 24 : Int).toNat x4 ∧ ∃ c1 c2 : Int, α' 87 = qzu (qzu (qzu (α 87) (192 + σ 86 24 : Int).toNat (x1 % 10)) (72 + 2 * σ 86 24 : Int).toNat c1) (72 + 2 * σ 86 24 + 1 : Int).toNat c2 ∧ ((-2147483648 ≤ c1 ∧ c1 ≤ 2147483647) ∧ (-2147483648 ≤ c2 ∧ c2 ≤ 2147483647)) ∧ ∀ j : Int, (0 ≤ j ∧ j < 16) → qbi c1 j = qbit x2 j ∧ qbi c2 j = qbit x2 (16 + j)))) := by
  refine qr_start (d := d + 2) qv_e198 (Nat.le_of_ble_eq_true rfl) ?_
  show qr_W (qe L xs vb) (d + 2) qx_e198 _ (0, [(0, .ref 86), (1, .int (qz x1)), (2, .long (ql x2)), (4, .int (qz x3)), (5, .int (qz x4))], [], _, 0, 0)
  have hF0 := qFr_rf [(86, 24)] [87, 102, 103, 104, 105] σ α
  have hz86_24 : 0 ≤ σ 86 24 ∧ σ 86 24 ≤ 60 := hI.1 86 24
  have hz86_6 : 0 ≤ σ 86 6 ∧ σ 86 6 ≤ 32 := hI.1 86 6
  refine qr_iload_n 1 rfl rfl rfl ?_
  refine qr_if_lt 95 4 rfl rfl rfl r1 (fun h1 => ?_) (fun h1 => ?_)
  · skip
    refine qr_iconst 96 rfl rfl ?_
    refine qr_istore _ 98 rfl (by decide) rfl rfl ?_
    refine qr_iload 100 rfl rfl rfl ?_
    refine qr_if_ne 105 103 rfl rfl rfl (by decide) (fun h => False.elim (by omega)) (fun h2 => ?_)
    refine qr_iconst 104 rfl rfl ?_
    refine qr_retI rfl rfl (by decide) (by decide) ?_
    exact ⟨_, _, rfl, hI, hF0, (-1), rfl, (by decide), (Or.inl ⟨rfl, by omega, rfl, rfl, rfl, rfl, rfl, rfl⟩)⟩
  · skip
    refine qr_aload_n 5 rfl rfl rfl ?_
    refine qr_iload_n 6 rfl rfl rfl ?_
    refine qr_bipush 8 rfl (by decide) rfl ?_
    refine qr_idiv 9 rfl (by omega) (by decide) rfl ?_
    refine qr_callN 12 rfl rfl rfl (sf_180_86 (d := d + 0) hI (by omega)) ?_
    have hs5 : 0 ≤ σ 86 6 ∧ σ 86 6 ≤ 32 := hI.1 86 6
    rintro _ _ ⟨rfl, v3, rfl, hv3, hp4⟩
    show qr_W (qe L xs vb) (d + 2) qx_e198 _ (12, _, [.int (qz v3)], qw σ α κ ρ, 0, 0)
    refine qr_if_eq 95 15 rfl rfl rfl (qrg hv3 (by decide) (by decide)) (fun h6 => ?_) (fun h6 => ?_)
    · skip
      refine qr_iconst 96 rfl rfl ?_
      refine qr_istore _ 98 rfl (by decide) rfl rfl ?_
      refine qr_iload 100 rfl rfl rfl ?_
      refine qr_if_ne 105 103 rfl rfl rfl (by decide) (fun h => False.elim (by omega)) (fun h7 => ?_)
      refine qr_iconst 104 rfl rfl ?_
      refine qr_retI rfl rfl (by decide) (by decide) ?_
      exact ⟨_, _, rfl, hI, hF0, (-1), rfl, (by decide), (Or.inl ⟨rfl, by omega, rfl, rfl, rfl, rfl, rfl, rfl⟩)⟩
    · skip
      refine qr_iload_n 16 rfl rfl rfl ?_
      refine qr_bipush 18 rfl (by decide) rfl ?_
      refine qr_irem 19 rfl (by omega) (by decide) rfl ?_
      refine qr_iconst 20 rfl rfl ?_
      refine qr_icmp_gt 95 23 rfl rfl rfl (by omega) (by decide) (fun h8 => ?_) (fun h8 => ?_)
      · skip
        refine qr_iconst 96 rfl rfl ?_
        refine qr_istore _ 98 rfl (by decide) rfl rfl ?_
        refine qr_iload 100 rfl rfl rfl ?_
        refine qr_if_ne 105 103 rfl rfl rfl (by decide) (fun h => False.elim (by omega)) (fun h9 => ?_)
        refine qr_iconst 104 rfl rfl ?_
        refine qr_retI rfl rfl (by decide) (by decide) ?_
        exact ⟨_, _, rfl, hI, hF0, (-1), rfl, (by decide), (Or.inl ⟨rfl, by omega, rfl, rfl, rfl, rfl, rfl, rfl⟩)⟩
      · skip
        refine qr_lload_n 24 rfl rfl rfl ?_
        refine qr_lconst 25 rfl rfl ?_
        refine qy_vl 0 rfl ?_
        refine qr_ldc2 4294967295 28 rfl (by decide) rfl ?_
        refine qr_callN 31 rfl rfl rfl (sf_176 (d := d + 1) hI r2 (by decide) (by decide)) ?_
        rintro _ _ ⟨rfl, v10, rfl, hv10, hp11⟩
        show qr_W (qe L xs vb) (d + 2) qx_e198 _ (31, _, [.int (qz v10)], qw σ α κ ρ, 0, 0)
        refine qr_if_eq 95 34 rfl rfl rfl (qrg hv10 (by decide) (by decide)) (fun h12 => ?_) (fun h12 => ?_)
        · skip
          refine qr_iconst 96 rfl rfl ?_
          refine qr_istore _ 98 rfl (by decide) rfl rfl ?_
          refine qr_iload 100 rfl rfl rfl ?_
          refine qr_if_ne 105 103 rfl rfl rfl (by decide) (fun h => False.elim (by omega)) (fun h13 => ?_)
          refine qr_iconst 104 rfl rfl ?_
          refine qr_retI rfl rfl (by decide) (by decide) ?_
          exact ⟨_, _, rfl, hI, hF0, (-1), rfl, (by decide), (Or.inl ⟨rfl, by omega, rfl, rfl, rfl, rfl, rfl, rfl⟩)⟩
        · skip
          refine qr_iload 36 rfl rfl rfl ?_
          refine qr_if_lt 95 39 rfl rfl rfl r3 (fun h14 => ?_) (fun h14 => ?_)
          · skip
            refine qr_iconst 96 rfl rfl ?_
            refine qr_istore _ 98 rfl (by decide) rfl rfl ?_
            refine qr_iload 100 rfl rfl rfl ?_
            refine qr_if_ne 105 103 rfl rfl rfl (by decide) (fun h => False.elim (by omega)) (fun h15 => ?_)
            refine qr_iconst 104 rfl rfl ?_
            refine qr_retI rfl rfl (by decide) (by decide) ?_
            exact ⟨_, _, rfl, hI, hF0, (-1), rfl, (by decide), (Or.inl ⟨rfl, by omega, rfl, rfl, rfl, rfl, rfl, rfl⟩)⟩
          · skip
            refine qr_iload 41 rfl rfl rfl ?_
            refine qr_sipush 44 rfl (by decide) rfl ?_
            refine qr_idiv 45 rfl (by omega) (by decide) rfl ?_
            refine qr_callN 48 rfl rfl rfl (sf_192 (d := d + 0) hI (by omega)) ?_
            rintro _ _ ⟨rfl, v16, rfl, hv16, hp17⟩
            show qr_W (qe L xs vb) (d + 2) qx_e198 _ (48, _, [.int (qz v16)], qw σ α κ ρ, 0, 0)
            refine qr_if_eq 95 51 rfl rfl rfl (qrg hv16 (by decide) (by decide)) (fun h18 => ?_) (fun h18 => ?_)
            · skip
              refine qr_iconst 96 rfl rfl ?_
              refine qr_istore _ 98 rfl (by decide) rfl rfl ?_
              refine qr_iload 100 rfl rfl rfl ?_
              refine qr_if_ne 105 103 rfl rfl rfl (by decide) (fun h => False.elim (by omega)) (fun h19 => ?_)
              refine qr_iconst 104 rfl rfl ?_
              refine qr_retI rfl rfl (by decide) (by decide) ?_
              exact ⟨_, _, rfl, hI, hF0, (-1), rfl, (by decide), (Or.inl ⟨rfl, by omega, rfl, rfl, rfl, rfl, rfl, rfl⟩)⟩
            · skip
              refine qr_iload 53 rfl rfl rfl ?_
              refine qr_sipush 56 rfl (by decide) rfl ?_
              refine qr_irem 57 rfl (by omega) (by decide) rfl ?_
              refine qr_callN 60 rfl rfl rfl (sf_192 (d := d + 0) hI (by omega)) ?_
              rintro _ _ ⟨rfl, v20, rfl, hv20, hp21⟩
              show qr_W (qe L xs vb) (d + 2) qx_e198 _ (60, _, [.int (qz v20)], qw σ α κ ρ, 0, 0)
              refine qr_if_eq 95 63 rfl rfl rfl (qrg hv20 (by decide) (by decide)) (fun h22 => ?_) (fun h22 => ?_)
              · skip
                refine qr_iconst 96 rfl rfl ?_
                refine qr_istore _ 98 rfl (by decide) rfl rfl ?_
                refine qr_iload 100 rfl rfl rfl ?_
                refine qr_if_ne 105 103 rfl rfl rfl (by decide) (fun h => False.elim (by omega)) (fun h23 => ?_)
                refine qr_iconst 104 rfl rfl ?_
                refine qr_retI rfl rfl (by decide) (by decide) ?_
                exact ⟨_, _, rfl, hI, hF0, (-1), rfl, (by decide), (Or.inl ⟨rfl, by omega, rfl, rfl, rfl, rfl, rfl, rfl⟩)⟩
              · skip
                refine qr_iload 65 rfl rfl rfl ?_
                refine qr_sipush 68 rfl (by decide) rfl ?_
                refine qr_idiv 69 rfl (by omega) (by decide) rfl ?_
                refine qr_iload 71 rfl rfl rfl ?_
                refine qr_sipush 74 rfl (by decide) rfl ?_
                refine qr_irem 75 rfl (by omega) (by decide) rfl ?_
                refine qr_icmp_gt 95 78 rfl rfl rfl (by omega) (by omega) (fun h24 => ?_) (fun h24 => ?_)
                · skip
                  refine qr_iconst 96 rfl rfl ?_
                  refine qr_istore _ 98 rfl (by decide) rfl rfl ?_
                  refine qr_iload 100 rfl rfl rfl ?_
                  refine qr_if_ne 105 103 rfl rfl rfl (by decide) (fun h => False.elim (by omega)) (fun h25 => ?_)
                  refine qr_iconst 104 rfl rfl ?_
                  refine qr_retI rfl rfl (by decide) (by decide) ?_
                  exact ⟨_, _, rfl, hI, hF0, (-1), rfl, (by decide), (Or.inl ⟨rfl, by omega, rfl, rfl, rfl, rfl, rfl, rfl⟩)⟩
                · skip
                  refine qr_iload 80 rfl rfl rfl ?_
                  refine qr_i2l 81 rfl r4 rfl ?_
                  refine qr_lconst 82 rfl rfl ?_
                  refine qy_vl 0 rfl ?_
                  refine qr_ldc2 240 85 rfl (by decide) rfl ?_
                  refine qr_callN 88 rfl rfl rfl (sf_176 (d := d + 1) hI (qrg r4 (by decide) (by decide)) (by decide) (by decide)) ?_
                  rintro _ _ ⟨rfl, v26, rfl, hv26, hp27⟩
                  show qr_W (qe L xs vb) (d + 2) qx_e198 _ (88, _, [.int (qz v26)], qw σ α κ ρ, 0, 0)
                  refine qr_if_eq 95 91 rfl rfl rfl (qrg hv26 (by decide) (by decide)) (fun h28 => ?_) (fun h28 => ?_)
                  · skip
                    refine qr_iconst 96 rfl rfl ?_
                    refine qr_istore _ 98 rfl (by decide) rfl rfl ?_
                    refine qr_iload 100 rfl rfl rfl ?_
                    refine qr_if_ne 105 103 rfl rfl rfl (by decide) (fun h => False.elim (by omega)) (fun h29 => ?_)
                    refine qr_iconst 104 rfl rfl ?_
                    refine qr_retI rfl rfl (by decide) (by decide) ?_
                    exact ⟨_, _, rfl, hI, hF0, (-1), rfl, (by decide), (Or.inl ⟨rfl, by omega, rfl, rfl, rfl, rfl, rfl, rfl⟩)⟩
                  · skip
                    refine qr_iconst 92 rfl rfl ?_
                    refine qr_goto 96 rfl rfl ?_
                    refine qr_istore _ 98 rfl (by decide) rfl rfl ?_
                    refine qr_iload 100 rfl rfl rfl ?_
                    refine qr_if_ne 105 103 rfl rfl rfl (by decide) (fun h30 => ?_) (fun h => False.elim (by omega))
                    refine qr_aload_n 106 rfl rfl rfl ?_
                    refine qr_get 109 rfl rfl rfl (by decide) rfl ?_
                    as_aux_lemma =>
                      refine qr_bipush 111 rfl (by decide) rfl ?_
                      refine qr_icmp_ne 117 114 rfl rfl rfl (qrg hz86_24 (by decide) (by decide)) (by decide) (fun h31 => ?_) (fun h31 => ?_)
                      · skip
                        refine qr_aload_n 118 rfl rfl rfl ?_
                        refine qr_get 121 rfl rfl rfl (by decide) rfl ?_
                        refine qr_aload_n 122 rfl rfl rfl ?_
                        refine qr_get 125 rfl rfl rfl (by decide) rfl ?_
                        refine qr_iload_n 126 rfl rfl rfl ?_
                        refine qr_bipush 128 rfl (by decide) rfl ?_
                        refine qr_idiv 129 rfl (by omega) (by decide) rfl ?_
                        refine qr_iastore 130 rfl (by decide) rfl (by omega) (by decide) rfl ?_
                        refine qy_wA (qw_r α 102 (qzu (α 102) ((σ 86 24) : Int).toNat (x1 / 10))) rfl (fun α32 e33 => ?_)
                        have hI34 : qI σ α32 κ ρ := by rw [e33]; exact qI_r hI 102 _ rfl (show 0 ≤ (x1 / 10) ∧ (x1 / 10) ≤ 31 by omega)
                        have hF35 : qFr [(86, 24)] [87, 102, 103, 104, 105] σ α σ α32 := by rw [e33]; exact qFr_r hF0 102 _ (by decide)
                        refine qr_aload_n 131 rfl rfl rfl ?_
                        refine qr_get 134 rfl rfl rfl (by decide) rfl ?_
                        refine qr_sipush 137 rfl (by decide) rfl ?_
                        refine qr_aload_n 138 rfl rfl rfl ?_
                        refine qr_get 141 rfl rfl rfl (by decide) rfl ?_
                        refine qr_iadd 142 rfl rfl ?_
                        refine qr_iload_n 143 rfl rfl rfl ?_
                        refine qr_bipush 145 rfl (by decide) rfl ?_
                        refine qr_irem 146 rfl (by omega) (by decide) rfl ?_
                        refine qr_iastore 147 rfl (by decide) rfl (by omega) (by decide) rfl ?_
                        refine qy_wA (qw_r α32 87 (qzu (α32 87) ((192 + (σ 86 24)) : Int).toNat (x1 % 10))) rfl (fun α36 e37 => ?_)
                        have hI38 : qI σ α36 κ ρ := by rw [e37]; exact qI_r hI34 87 _ rfl (show (-2147483648) ≤ (x1 % 10) ∧ (x1 % 10) ≤ 2147483647 by omega)
                        have hF39 : qFr [(86, 24)] [87, 102, 103, 104, 105] σ α σ α36 := by rw [e37]; exact qFr_r hF35 87 _ (by decide)
                        refine qr_aload_n 148 rfl rfl rfl ?_
                        refine qr_get 151 rfl rfl rfl (by decide) rfl ?_
                        refine qr_bipush 153 rfl (by decide) rfl ?_
                        refine qr_iconst 154 rfl rfl ?_
                        refine qr_aload_n 155 rfl rfl rfl ?_
                        refine qr_get 158 rfl rfl rfl (by decide) rfl ?_
                        refine qr_imul 159 rfl rfl ?_
                        refine qr_iadd 160 rfl rfl ?_
                        refine qr_lload_n 161 rfl rfl rfl ?_
                        refine qr_ldc2 65535 164 rfl (by decide) rfl ?_
                        refine qr_land 165 rfl rfl ?_
                        refine qy_canlE (fun v40 hv40 hev40 => ?_)
                        refine qr_l2i 166 rfl rfl ?_
                        refine qy_canE (fun v41 hv41 hev41 => ?_)
                        refine qr_iastore 167 rfl (by decide) rfl (by omega) (by decide) rfl ?_
                        refine qy_wA (qw_r α36 87 (qzu (α36 87) ((72 + (2 * (σ 86 24))) : Int).toNat v41)) rfl (fun α42 e43 => ?_)
                        have hI44 : qI σ α42 κ ρ := by rw [e43]; exact qI_r hI38 87 _ rfl (show (-2147483648) ≤ v41 ∧ v41 ≤ 2147483647 by omega)
                        have hF45 : qFr [(86, 24)] [87, 102, 103, 104, 105] σ α σ α42 := by rw [e43]; exact qFr_r hF39 87 _ (by decide)
                        refine qr_aload_n 168 rfl rfl rfl ?_
                        refine qr_get 171 rfl rfl rfl (by decide) rfl ?_
                        refine qr_bipush 173 rfl (by decide) rfl ?_
                        refine qr_iconst 174 rfl rfl ?_
                        refine qr_aload_n 175 rfl rfl rfl ?_
                        refine qr_get 178 rfl rfl rfl (by decide) rfl ?_
                        refine qr_imul 179 rfl rfl ?_
                        refine qr_iadd 180 rfl rfl ?_
                        refine qr_iconst 181 rfl rfl ?_
                        refine qr_iadd 182 rfl rfl ?_
                        refine qr_lload_n 183 rfl rfl rfl ?_
                        refine qr_bipush 185 rfl (by decide) rfl ?_
                        refine qr_lshr 186 rfl rfl ?_
                        refine qy_canlE (fun v46 hv46 hev46 => ?_)
                        refine qr_l2i 187 rfl rfl ?_
                        refine qy_canE (fun v47 hv47 hev47 => ?_)
                        refine qr_iastore 188 rfl (by decide) rfl (by omega) (by decide) rfl ?_
                        refine qy_wA (qw_r α42 87 (qzu (α42 87) (((72 + (2 * (σ 86 24))) + 1) : Int).toNat v47)) rfl (fun α48 e49 => ?_)
                        have hI50 : qI σ α48 κ ρ := by rw [e49]; exact qI_r hI44 87 _ rfl (show (-2147483648) ≤ v47 ∧ v47 ≤ 2147483647 by omega)
                        have hF51 : qFr [(86, 24)] [87, 102, 103, 104, 105] σ α σ α48 := by rw [e49]; exact qFr_r hF45 87 _ (by decide)
                        refine qr_aload_n 189 rfl rfl rfl ?_
                        refine qr_get 192 rfl rfl rfl (by decide) rfl ?_
                        refine qr_aload_n 193 rfl rfl rfl ?_
                        as_aux_lemma =>
                          refine qr_get 196 rfl rfl rfl (by decide) rfl ?_
                          refine qr_iload 198 rfl rfl rfl ?_
                          refine qr_sipush 201 rfl (by decide) rfl ?_
                          refine qr_idiv 202 rfl (by omega) (by decide) rfl ?_
                          refine qr_iastore 203 rfl (by decide) rfl (by omega) (by decide) rfl ?_
                          refine qy_wA (qw_r α48 103 (qzu (α48 103) ((σ 86 24) : Int).toNat (x3 / 10000))) rfl (fun α52 e53 => ?_)
                          have hI54 : qI σ α52 κ ρ := by rw [e53]; exact qI_r hI50 103 _ rfl (show (-2147483648) ≤ (x3 / 10000) ∧ (x3 / 10000) ≤ 2147483647 by omega)
                          have hF55 : qFr [(86, 24)] [87, 102, 103, 104, 105] σ α σ α52 := by rw [e53]; exact qFr_r hF51 103 _ (by decide)
                          refine qr_aload_n 204 rfl rfl rfl ?_
                          refine qr_get 207 rfl rfl rfl (by decide) rfl ?_
                          refine qr_aload_n 208 rfl rfl rfl ?_
                          refine qr_get 211 rfl rfl rfl (by decide) rfl ?_
                          refine qr_iload 213 rfl rfl rfl ?_
                          refine qr_sipush 216 rfl (by decide) rfl ?_
                          refine qr_irem 217 rfl (by omega) (by decide) rfl ?_
                          refine qr_iastore 218 rfl (by decide) rfl (by omega) (by decide) rfl ?_
                          refine qy_wA (qw_r α52 104 (qzu (α52 104) ((σ 86 24) : Int).toNat (x3 % 10000))) rfl (fun α56 e57 => ?_)
                          have hI58 : qI σ α56 κ ρ := by rw [e57]; exact qI_r hI54 104 _ rfl (show (-2147483648) ≤ (x3 % 10000) ∧ (x3 % 10000) ≤ 2147483647 by omega)
                          have hF59 : qFr [(86, 24)] [87, 102, 103, 104, 105] σ α σ α56 := by rw [e57]; exact qFr_r hF55 104 _ (by decide)
                          refine qr_aload_n 219 rfl rfl rfl ?_
                          refine qr_get 222 rfl rfl rfl (by decide) rfl ?_
                          refine qr_aload_n 223 rfl rfl rfl ?_
                          refine qr_get 226 rfl rfl rfl (by decide) rfl ?_
                          refine qr_iload 228 rfl rfl rfl ?_
                          refine qr_iastore 229 rfl (by decide) rfl (by omega) (by decide) rfl ?_
                          refine qy_wA (qw_r α56 105 (qzu (α56 105) ((σ 86 24) : Int).toNat x4)) rfl (fun α60 e61 => ?_)
                          have hI62 : qI σ α60 κ ρ := by rw [e61]; exact qI_r hI58 105 _ rfl (show (-2147483648) ≤ x4 ∧ x4 ≤ 2147483647 by omega)
                          have hF63 : qFr [(86, 24)] [87, 102, 103, 104, 105] σ α σ α60 := by rw [e61]; exact qFr_r hF59 105 _ (by decide)
                          refine qr_aload_n 230 rfl rfl rfl ?_
                          refine qr_dup 231 rfl rfl rfl ?_
                          refine qr_get 234 rfl rfl rfl (by decide) rfl ?_
                          refine qr_iconst 235 rfl rfl ?_
                          refine qr_iadd 236 rfl rfl ?_
                          refine qr_put 239 rfl (by decide) rfl (Nat.le_of_ble_eq_true rfl) (Nat.le_of_ble_eq_true rfl) (Or.inl rfl) (qr_fitI rfl _) rfl ?_
                          refine qy_wS (qw_s σ 86 24 ((σ 86 24) + 1)) rfl (fun σ64 e65 => ?_)
                          have hI66 : qI σ64 α60 κ ρ := by rw [e65]; exact qI_s hI62 86 24 rfl (show 0 ≤ ((σ 86 24) + 1) ∧ ((σ 86 24) + 1) ≤ 60 by omega)
                          have hF67 : qFr [(86, 24)] [87, 102, 103, 104, 105] σ α σ64 α60 := by rw [e65]; exact qFr_s hF63 86 24 _ (by decide)
                          refine qr_aload_n 240 rfl rfl rfl ?_
                          refine qr_get 243 rfl rfl rfl (by decide) rfl ?_
                          refine qy_v ((σ 86 24) + 1) ((congrFun (congrFun e65 86) 24).trans rfl) ?_
                          refine qr_iconst 244 rfl rfl ?_
                          refine qr_isub 245 rfl rfl ?_
                          refine qr_retI rfl rfl (by decide) (by decide) ?_
                          exact ⟨_, _, rfl, hI66, hF67, (((σ 86 24) + 1) - 1), rfl, (by omega), (Or.inr (Or.inr ⟨by omega, by omega, by omega, (by have hw : σ64 86 24 = ((σ 86 24) + 1) := (congrFun (congrFun e65 86) 24).trans rfl; omega), ((congrFun e61 102).trans ((qw_r_ne (by decide)).trans ((congrFun e57 102).trans ((qw_r_ne (by decide)).trans ((congrFun e53 102).trans ((qw_r_ne (by decide)).trans ((congrFun e49 102).trans ((qw_r_ne (by decide)).trans ((congrFun e43 102).trans ((qw_r_ne (by decide)).trans ((congrFun e37 102).trans ((qw_r_ne (by decide)).trans ((congrFun e33 102).trans (qw_r_eq.trans (congrArg (fun f => qzu f ((σ 86 24) : Int).toNat (x1 / 10)) rfl))))))))))))))), ((congrFun e61 103).trans ((qw_r_ne (by decide)).trans ((congrFun e57 103).trans ((qw_r_ne (by decide)).trans ((congrFun e53 103).trans (qw_r_eq.trans (congrArg (fun f => qzu f ((σ 86 24) : Int).toNat (x3 / 10000)) ((congrFun e49 103).trans ((qw_r_ne (by decide)).trans ((congrFun e43 103).trans ((qw_r_ne (by decide)).trans ((congrFun e37 103).trans ((qw_r_ne (by decide)).trans ((congrFun e33 103).trans ((qw_r_ne (by decide)).trans rfl))))))))))))))), ((congrFun e61 104).trans ((qw_r_ne (by decide)).trans ((congrFun e57 104).trans (qw_r_eq.trans (congrArg (fun f => qzu f ((σ 86 24) : Int).toNat (x3 % 10000)) ((congrFun e53 104).trans ((qw_r_ne (by decide)).trans ((congrFun e49 104).trans ((qw_r_ne (by decide)).trans ((congrFun e43 104).trans ((qw_r_ne (by decide)).trans ((congrFun e37 104).trans ((qw_r_ne (by decide)).trans ((congrFun e33 104).trans ((qw_r_ne (by decide)).trans rfl))))))))))))))), ((congrFun e61 105).trans (qw_r_eq.trans (congrArg (fun f => qzu f ((σ 86 24) : Int).toNat x4) ((congrFun e57 105).trans ((qw_r_ne (by decide)).trans ((congrFun e53 105).trans ((qw_r_ne (by decide)).trans ((congrFun e49 105).trans ((qw_r_ne (by decide)).trans ((congrFun e43 105).trans ((qw_r_ne (by decide)).trans ((congrFun e37 105).trans ((qw_r_ne (by decide)).trans ((congrFun e33 105).trans ((qw_r_ne (by decide)).trans rfl))))))))))))))), v41, v47, ((congrFun e61 87).trans ((qw_r_ne (by decide)).trans ((congrFun e57 87).trans ((qw_r_ne (by decide)).trans ((congrFun e53 87).trans ((qw_r_ne (by decide)).trans ((congrFun e49 87).trans (qw_r_eq.trans (congrArg (fun f => qzu f (((72 + (2 * (σ 86 24))) + 1) : Int).toNat v47) ((congrFun e43 87).trans (qw_r_eq.trans (congrArg (fun f => qzu f ((72 + (2 * (σ 86 24))) : Int).toNat v41) ((congrFun e37 87).trans (qw_r_eq.trans (congrArg (fun f => qzu f ((192 + (σ 86 24)) : Int).toNat (x1 % 10)) ((congrFun e33 87).trans ((qw_r_ne (by decide)).trans rfl))))))))))))))))), ⟨by omega, by omega⟩, (fun j hj => ⟨qcv_lo hj hev40 hev41, qcv_hi (by omega) hj hev46 hev47⟩)⟩))⟩
                      · skip
                        refine qr_bipush 116 rfl (by decide) rfl ?_
                        refine qr_retI rfl rfl (by decide) (by decide) ?_
                        exact ⟨_, _, rfl, hI, hF0, (-3), rfl, (by decide), (Or.inr (Or.inl ⟨rfl, by omega, by omega, rfl, rfl, rfl, rfl, rfl, rfl⟩))⟩
end
section
/-! two tellings alike -/
theorem qland_cg {H H' : Int → Int → Int → Nat → Int} {B B' : Int → Nat → Int} {n : Nat} {s : qTS} {v : Int} (hH : ∀ k : Nat, k < n → H s.2.2.1 (v / 100) (v % 100) k = H' s.2.2.1 (v / 100) (v % 100) k) (hB : ∀ k : Nat, k < n → B (v / 100) k = B' (v / 100) k) : qland H B n s v = qland H' B' n s v := by
  have e : ∀ k : Nat, k < n → qPk (H s.2.2.1 (v / 100) (v % 100)) (B (v / 100)) k = qPk (H' s.2.2.1 (v / 100) (v % 100)) (B' (v / 100)) k := fun k hk => by
    unfold qPk
    rw [hH k hk, hB k hk]
  unfold qland
  rw [qbs_eq n e, qBr_eq n e]
def qTP (N : Int) (s : qTS) : Prop := ∀ (j : Nat) (h : j < s.1.length), 0 ≤ s.1[j] % 100 ∧ s.1[j] % 100 < N
theorem qTP_land {H : Int → Int → Int → Nat → Int} {B : Int → Nat → Int} {n : Nat} {s : qTS} {v N : Int} (hv : v % 100 < N) (h : qTP N s) : qTP N (qland H B n s v) := fun j hj => by
  have hj2 : j < (s.1 ++ [v]).length := hj
  have hlen : (s.1 ++ [v]).length = s.1.length + 1 := List.length_append
  show 0 ≤ (s.1 ++ [v])[j]'hj2 % 100 ∧ (s.1 ++ [v])[j]'hj2 % 100 < N
  by_cases c : j < s.1.length
  · have e : (s.1 ++ [v])[j]'hj2 = s.1[j] := List.getElem_append_left c
    rw [e]
    exact h j c
  · have e : (s.1 ++ [v])[j]'hj2 = v := by
      rw [List.getElem_append_right (show s.1.length ≤ j by omega)]
      simp
    rw [e]
    omega
theorem qnext_cg {W W' : Int → Int → Int → Int → Int → Int → Int} {N : Int} {s : qTS} (hN : N ≤ 32) (hP : qTP N s) (h1 : ∀ b p q st t : Int, 0 ≤ p → p < N → 0 ≤ q → q < N → ¬ p = q → 0 ≤ st → st < N → W 1 b p q st t = W' 1 b p q st t) (h0 : ∀ b p q t : Int, 0 ≤ p → p < N → 0 ≤ q → q < N → ¬ p = q → W 0 b p q (-1) t = W' 0 b p q (-1) t) : qnext W N s = qnext W' N s := by
  have e1 : qfst (qkC1 W s) N = qfst (qkC1 W' s) N := qfst_of hN (qFst_eq (fun p q k1 k2 k3 k4 => by
    constructor
    · rintro ⟨c1, c2, c3, i, hi, c4, c5⟩
      refine ⟨c1, c2, c3, i, hi, c4, ?_⟩
      rw [h1 _ _ _ _ _ k1 k2 k3 k4 c1 (hP i hi).1 (hP i hi).2]
      exact c5
    · rintro ⟨c1, c2, c3, i, hi, c4, c5⟩
      refine ⟨c1, c2, c3, i, hi, c4, ?_⟩
      rw [← h1 _ _ _ _ _ k1 k2 k3 k4 c1 (hP i hi).1 (hP i hi).2]
      exact c5) (qFst_ex (qkC1 W' s) N hN))
  have e0 : qfst (qkC0 W s) N = qfst (qkC0 W' s) N := qfst_of hN (qFst_eq (fun p q k1 k2 k3 k4 => by
    constructor
    · rintro ⟨c1, c2, c3, c4⟩
      exact ⟨c1, c2, c3, by rw [h0 _ _ _ _ k1 k2 k3 k4 c1]; exact c4⟩
    · rintro ⟨c1, c2, c3, c4⟩
      exact ⟨c1, c2, c3, by rw [← h0 _ _ _ _ k1 k2 k3 k4 c1]; exact c4⟩) (qFst_ex (qkC0 W' s) N hN))
  unfold qnext
  rw [e1, e0]
theorem qnext_r {W : Int → Int → Int → Int → Int → Int → Int} {N : Int} {s : qTS} (hN : N ≤ 32) (h : ¬ qnext W N s < 0) : (0 ≤ qnext W N s / 100 ∧ qnext W N s / 100 < N) ∧ (0 ≤ qnext W N s % 100 ∧ qnext W N s % 100 < N) ∧ ¬ qnext W N s / 100 = qnext W N s % 100 := by
  have a := qFst_ex (qkC1 W s) N hN
  have b := qFst_ex (qkC0 W s) N hN
  by_cases c : qfst (qkC1 W s) N < 0
  · have e : qnext W N s = qfst (qkC0 W s) N := if_pos c
    rw [e] at h ⊢
    rcases b with b | ⟨b1, b2, _⟩
    · exact absurd b.1 (by omega)
    · exact ⟨by omega, by omega, b2.1⟩
  · have e : qnext W N s = qfst (qkC1 W s) N := if_neg c
    rw [e] at h ⊢
    rcases a with a | ⟨a1, a2, _⟩
    · exact absurd a.1 (by omega)
    · exact ⟨by omega, by omega, a2.1⟩
theorem qtell_cg {H H' : Int → Int → Int → Nat → Int} {B B' : Int → Nat → Int} {n : Nat} {W W' : Int → Int → Int → Int → Int → Int → Int} {N : Int} (hN : N ≤ 32) (hH : ∀ b p q : Int, 0 ≤ p → p < N → 0 ≤ q → q < N → ¬ p = q → ∀ k : Nat, k < n → H b p q k = H' b p q k) (hB : ∀ p : Int, 0 ≤ p → p < N → ∀ k : Nat, k < n → B p k = B' p k) (h1 : ∀ b p q st t : Int, 0 ≤ p → p < N → 0 ≤ q → q < N → ¬ p = q → 0 ≤ st → st < N → W 1 b p q st t = W' 1 b p q st t) (h0 : ∀ b p q t : Int, 0 ≤ p → p < N → 0 ≤ q → q < N → ¬ p = q → W 0 b p q (-1) t = W' 0 b p q (-1) t) : ∀ (k : Nat) (s : qTS), qTP N s → qtell H B n W N k s = qtell H' B' n W' N k s
  | 0, _, _ => rfl
  | k + 1, s, hP => by
    have e := qnext_cg hN hP h1 h0
    by_cases c : qnext W N s < 0
    · rw [show qtell H B n W N (k + 1) s = s from if_pos c, show qtell H' B' n W' N (k + 1) s = s from if_pos (by rw [← e]; exact c)]
    · have r := qnext_r hN c
      rw [show qtell H B n W N (k + 1) s = qtell H B n W N k (qland H B n s (qnext W N s)) from if_neg c, show qtell H' B' n W' N (k + 1) s = qtell H' B' n W' N k (qland H' B' n s (qnext W' N s)) from if_neg (by rw [← e]; exact c), ← e]
      rw [qland_cg (H' := H') (B' := B') (fun j hj => hH _ _ _ r.1.1 r.1.2 r.2.1.1 r.2.1.2 r.2.2 j hj) (fun j hj => hB _ r.1.1 r.1.2 j hj)]
      exact qtell_cg hN hH hB h1 h0 k _ (qTP_land r.2.1.2 hP)
theorem qtell_cl {H H' : Int → Int → Int → Nat → Int} {B B' : Int → Nat → Int} {n : Nat} {W W' : Int → Int → Int → Int → Int → Int → Int} {N v : Int} (hN : N ≤ 32) (hv : (0 ≤ v / 100 ∧ v / 100 < N) ∧ (0 ≤ v % 100 ∧ v % 100 < N) ∧ ¬ v / 100 = v % 100) (hH : ∀ b p q : Int, 0 ≤ p → p < N → 0 ≤ q → q < N → ¬ p = q → ∀ k : Nat, k < n → H b p q k = H' b p q k) (hB : ∀ p : Int, 0 ≤ p → p < N → ∀ k : Nat, k < n → B p k = B' p k) (h1 : ∀ b p q st t : Int, 0 ≤ p → p < N → 0 ≤ q → q < N → ¬ p = q → 0 ≤ st → st < N → W 1 b p q st t = W' 1 b p q st t) (h0 : ∀ b p q t : Int, 0 ≤ p → p < N → 0 ≤ q → q < N → ¬ p = q → W 0 b p q (-1) t = W' 0 b p q (-1) t) (t : Int) : qtell H B n W N 30 (qland H B n ([], t, 0, []) v) = qtell H' B' n W' N 30 (qland H' B' n ([], t, 0, []) v) := by
  rw [qland_cg (H' := H') (B' := B') (fun j hj => hH _ _ _ hv.1.1 hv.1.2 hv.2.1.1 hv.2.1.2 hv.2.2 j hj) (fun j hj => hB _ hv.1.1 hv.1.2 j hj)]
  exact qtell_cg hN hH hB h1 h0 30 _ (qTP_land hv.2.1.2 (fun j hj => absurd hj (Nat.not_lt_zero j)))
end
section
def qRF (σ α : Nat → Nat → Int) : Prop := α 28 = α 97 ∧ α 29 = α 98 ∧ α 30 = α 99 ∧ α 31 = α 100 ∧ α 32 = α 101 ∧ ∀ f : Nat, (f : Int) < σ 86 16 → α 97 f < σ 86 6 ∧ α 98 f < σ 86 6
theorem qRF_fr {S : List (Nat × Nat)} {R : List Nat} {σ α σ' α' : Nat → Nat → Int} (hG : qFr S R σ α σ' α') (hs : [(86, 6), (86, 16)].all (fun x => !S.contains x) = true) (hr : [28, 29, 30, 31, 32, 97, 98, 99, 100, 101].all (fun x => !R.contains x) = true) (h : qRF σ α) : qRF σ' α' := by
  have es : ∀ a k, (a, k) ∈ [(86, 6), (86, 16)] → σ' a k = σ a k := fun a k hm => hG.1 a k (fun hn => by
    have h1 := List.all_eq_true.mp hs (a, k) hm
    rw [List.contains_iff_mem.mpr hn] at h1
    exact absurd h1 (by decide))
  have er : ∀ a, a ∈ [28, 29, 30, 31, 32, 97, 98, 99, 100, 101] → α' a = α a := fun a hm => hG.2 a (fun hn => by
    have h1 := List.all_eq_true.mp hr a hm
    rw [List.contains_iff_mem.mpr hn] at h1
    exact absurd h1 (by decide))
  unfold qRF at h ⊢
  rw [es 86 6 (by decide), es 86 16 (by decide), er 28 (by decide), er 29 (by decide), er 30 (by decide), er 31 (by decide), er 32 (by decide), er 97 (by decide), er 98 (by decide), er 99 (by decide), er 100 (by decide), er 101 (by decide)]
  exact h
def qRP (σ α : Nat → Nat → Int) : Prop := α 36 = α 102 ∧ α 37 = α 103 ∧ α 38 = α 104 ∧ α 39 = α 105 ∧ ∀ k : Nat, (k : Int) < σ 86 24 → (0 ≤ α 104 k ∧ α 104 k ≤ 2399) ∧ 0 ≤ α 105 k ∧ α 105 k ≤ 240
theorem qRP_fr {S : List (Nat × Nat)} {R : List Nat} {σ α σ' α' : Nat → Nat → Int} (hG : qFr S R σ α σ' α') (hs : [(86, 24)].all (fun x => !S.contains x) = true) (hr : [36, 37, 38, 39, 102, 103, 104, 105].all (fun x => !R.contains x) = true) (h : qRP σ α) : qRP σ' α' := by
  have es : ∀ a k, (a, k) ∈ [(86, 24)] → σ' a k = σ a k := fun a k hm => hG.1 a k (fun hn => by
    have h1 := List.all_eq_true.mp hs (a, k) hm
    rw [List.contains_iff_mem.mpr hn] at h1
    exact absurd h1 (by decide))
  have er : ∀ a, a ∈ [36, 37, 38, 39, 102, 103, 104, 105] → α' a = α a := fun a hm => hG.2 a (fun hn => by
    have h1 := List.all_eq_true.mp hr a hm
    rw [List.contains_iff_mem.mpr hn] at h1
    exact absurd h1 (by decide))
  unfold qRP at h ⊢
  rw [es 86 24 (by decide), er 36 (by decide), er 37 (by decide), er 38 (by decide), er 39 (by decide), er 102 (by decide), er 103 (by decide), er 104 (by decide), er 105 (by decide)]
  exact h
def qRH (σ α : Nat → Nat → Int) : Prop := qHq σ α (α 87, α 88, α 89, α 90, σ 86 5, σ 86 4) ∧ qCh (α 87, α 88, α 89, α 90, σ 86 5, σ 86 4)
theorem qRH_fr {S : List (Nat × Nat)} {R : List Nat} {σ α σ' α' : Nat → Nat → Int} (hG : qFr S R σ α σ' α') (hs : [(17, 6), (27, 7), (34, 7), (76, 7), (76, 8), (86, 4), (86, 5)].all (fun x => !S.contains x) = true) (hr : [20, 33, 35, 38, 39, 40, 41, 77, 78, 79, 80, 87, 88, 89, 90].all (fun x => !R.contains x) = true) (h : qRH σ α) : qRH σ' α' := by
  have es : ∀ a k, (a, k) ∈ [(17, 6), (27, 7), (34, 7), (76, 7), (76, 8), (86, 4), (86, 5)] → σ' a k = σ a k := fun a k hm => hG.1 a k (fun hn => by
    have h1 := List.all_eq_true.mp hs (a, k) hm
    rw [List.contains_iff_mem.mpr hn] at h1
    exact absurd h1 (by decide))
  have er : ∀ a, a ∈ [20, 33, 35, 38, 39, 40, 41, 77, 78, 79, 80, 87, 88, 89, 90] → α' a = α a := fun a hm => hG.2 a (fun hn => by
    have h1 := List.all_eq_true.mp hr a hm
    rw [List.contains_iff_mem.mpr hn] at h1
    exact absurd h1 (by decide))
  unfold qRH
  rw [er 87 (by decide), er 88 (by decide), er 89 (by decide), er 90 (by decide), es 86 5 (by decide), es 86 4 (by decide)]
  exact ⟨qHq_c (fun a k hm => es a k ((by decide : ∀ x, x ∈ [(17, 6), (27, 7), (34, 7), (76, 7), (76, 8)] → x ∈ [(17, 6), (27, 7), (34, 7), (76, 7), (76, 8), (86, 4), (86, 5)]) (a, k) hm)) (fun a hm => er a ((by decide : ∀ x, x ∈ [20, 33, 35, 38, 39, 40, 41, 77, 78, 79, 80] → x ∈ [20, 33, 35, 38, 39, 40, 41, 77, 78, 79, 80, 87, 88, 89, 90]) a hm)) h.1, h.2⟩
def qRL (σ α : Nat → Nat → Int) : Prop := ∀ p : Nat, (p : Int) < σ 17 6 → ∀ l : Int, (0 ≤ l ∧ l < 64) → qbit (α 22 p) l = qll (α 91) (p : Int) l
theorem qRL_fr {S : List (Nat × Nat)} {R : List Nat} {σ α σ' α' : Nat → Nat → Int} (hG : qFr S R σ α σ' α') (hs : [(17, 6)].all (fun x => !S.contains x) = true) (hr : [22, 91].all (fun x => !R.contains x) = true) (h : qRL σ α) : qRL σ' α' := by
  have es : ∀ a k, (a, k) ∈ [(17, 6)] → σ' a k = σ a k := fun a k hm => hG.1 a k (fun hn => by
    have h1 := List.all_eq_true.mp hs (a, k) hm
    rw [List.contains_iff_mem.mpr hn] at h1
    exact absurd h1 (by decide))
  have er : ∀ a, a ∈ [22, 91] → α' a = α a := fun a hm => hG.2 a (fun hn => by
    have h1 := List.all_eq_true.mp hr a hm
    rw [List.contains_iff_mem.mpr hn] at h1
    exact absurd h1 (by decide))
  unfold qRL at h ⊢
  rw [es 17 6 (by decide), er 22 (by decide), er 91 (by decide)]
  exact h
def qRN (σ _α : Nat → Nat → Int) : Prop := σ 17 5 = σ 86 10 ∧ σ 27 6 = 0 ∧ σ 58 10 = 0 ∧ σ 86 22 = 0 ∧ σ 86 29 = 0 ∧ σ 86 41 = 0
theorem qRN_fr {S : List (Nat × Nat)} {R : List Nat} {σ α σ' α' : Nat → Nat → Int} (hG : qFr S R σ α σ' α') (hs : [(17, 5), (27, 6), (58, 10), (86, 10), (86, 22), (86, 29), (86, 41)].all (fun x => !S.contains x) = true) (h : qRN σ α) : qRN σ' α' := by
  have es : ∀ a k, (a, k) ∈ [(17, 5), (27, 6), (58, 10), (86, 10), (86, 22), (86, 29), (86, 41)] → σ' a k = σ a k := fun a k hm => hG.1 a k (fun hn => by
    have h1 := List.all_eq_true.mp hs (a, k) hm
    rw [List.contains_iff_mem.mpr hn] at h1
    exact absurd h1 (by decide))
  unfold qRN at h ⊢
  rw [es 17 5 (by decide), es 27 6 (by decide), es 58 10 (by decide), es 86 10 (by decide), es 86 22 (by decide), es 86 29 (by decide), es 86 41 (by decide)]
  exact h
def qRT (σ α : Nat → Nat → Int) : Prop := σ 70 2 = σ 86 50 ∧ (∀ i : Nat, (i : Int) < σ 70 2 → α 71 i = 100 * α 115 i + α 116 i) ∧ ((σ 70 2 = 0 ∧ σ 86 51 = -1) ∨ (0 < σ 70 2 ∧ σ 70 3 = σ 86 51))
theorem qRT_fr {S : List (Nat × Nat)} {R : List Nat} {σ α σ' α' : Nat → Nat → Int} (hG : qFr S R σ α σ' α') (hs : [(70, 2), (70, 3), (86, 50), (86, 51)].all (fun x => !S.contains x) = true) (hr : [71, 115, 116].all (fun x => !R.contains x) = true) (h : qRT σ α) : qRT σ' α' := by
  have es : ∀ a k, (a, k) ∈ [(70, 2), (70, 3), (86, 50), (86, 51)] → σ' a k = σ a k := fun a k hm => hG.1 a k (fun hn => by
    have h1 := List.all_eq_true.mp hs (a, k) hm
    rw [List.contains_iff_mem.mpr hn] at h1
    exact absurd h1 (by decide))
  have er : ∀ a, a ∈ [71, 115, 116] → α' a = α a := fun a hm => hG.2 a (fun hn => by
    have h1 := List.all_eq_true.mp hr a hm
    rw [List.contains_iff_mem.mpr hn] at h1
    exact absurd h1 (by decide))
  unfold qRT at h ⊢
  rw [es 70 2 (by decide), es 70 3 (by decide), es 86 50 (by decide), es 86 51 (by decide), er 71 (by decide), er 115 (by decide), er 116 (by decide)]
  exact h
/-- swords: 0 or 1, now and as they were -/
def qSW (h : qHS) : Prop := (∀ k : Nat, k < 32 → 0 ≤ h.1 k ∧ h.1 k ≤ 1) ∧ ∀ j : Nat, (j : Int) < h.2.2.2.2.2 → h.2.1 j < 32 → (0 ≤ h.2.2.1 j ∧ h.2.2.1 j ≤ 1) ∧ (0 ≤ h.2.2.2.1 j ∧ h.2.2.2.1 j ≤ 1)
def qRS (σ α : Nat → Nat → Int) : Prop := qSW (α 87, α 88, α 89, α 90, σ 86 5, σ 86 4)
theorem qRS_fr {S : List (Nat × Nat)} {R : List Nat} {σ α σ' α' : Nat → Nat → Int} (hG : qFr S R σ α σ' α') (hs : [((86 : Nat), (4 : Nat)), (86, 5)].all (fun x => !S.contains x) = true) (hr : [87, 88, 89, 90].all (fun x => !R.contains x) = true) (h : qRS σ α) : qRS σ' α' := by
  have es : ∀ a k, (a, k) ∈ [((86 : Nat), (4 : Nat)), (86, 5)] → σ' a k = σ a k := fun a k hm => hG.1 a k (fun hn => by
    have h1 := List.all_eq_true.mp hs (a, k) hm
    rw [List.contains_iff_mem.mpr hn] at h1
    exact absurd h1 (by decide))
  have er : ∀ a, a ∈ [87, 88, 89, 90] → α' a = α a := fun a hm => hG.2 a (fun hn => by
    have h1 := List.all_eq_true.mp hr a hm
    rw [List.contains_iff_mem.mpr hn] at h1
    exact absurd h1 (by decide))
  unfold qRS at h ⊢
  rw [er 87 (by decide), er 88 (by decide), er 89 (by decide), er 90 (by decide), es 86 5 (by decide), es 86 4 (by decide)]
  exact h
theorem qSW_bec {h : qHS} {a w : Int} (hd : 0 ≤ h.2.2.2.2.1 ∧ h.2.2.2.2.1 ≤ h.2.2.2.2.2) (hv : a < 32 → 0 ≤ w ∧ w ≤ 1) (hc : qSW h) : qSW (qbec h a w) := by
  by_cases e : h.1 a.toNat = w
  · rw [show qbec h a w = h from if_pos e]
    exact hc
  · have hb : qbec h a w = (qzu h.1 a.toNat w, qzu (qfo h.2.2.2.2.1 h.2.1) (qdo h.2.2.2.2.1).toNat a, qzu (qfo h.2.2.2.2.1 h.2.2.1) (qdo h.2.2.2.2.1).toNat (h.1 a.toNat), qzu (qfo h.2.2.2.2.1 h.2.2.2.1) (qdo h.2.2.2.2.1).toNat w, qdo h.2.2.2.2.1 + 1, qdo h.2.2.2.2.1 + 1) := if_neg e
    rw [hb]
    refine ⟨fun k hk => ?_, fun j hj h32 => ?_⟩
    · show 0 ≤ (if k = a.toNat then w else h.1 k) ∧ (if k = a.toNat then w else h.1 k) ≤ 1
      by_cases c : k = a.toNat
      · rw [if_pos c]
        exact hv (by omega)
      · rw [if_neg c]
        exact hc.1 k hk
    · have hj' : (j : Int) < qdo h.2.2.2.2.1 + 1 := hj
      have h32' : (if j = (qdo h.2.2.2.2.1).toNat then a else qfo h.2.2.2.2.1 h.2.1 j) < 32 := h32
      show (0 ≤ (if j = (qdo h.2.2.2.2.1).toNat then h.1 a.toNat else qfo h.2.2.2.2.1 h.2.2.1 j) ∧ (if j = (qdo h.2.2.2.2.1).toNat then h.1 a.toNat else qfo h.2.2.2.2.1 h.2.2.1 j) ≤ 1) ∧ (0 ≤ (if j = (qdo h.2.2.2.2.1).toNat then w else qfo h.2.2.2.2.1 h.2.2.2.1 j) ∧ (if j = (qdo h.2.2.2.2.1).toNat then w else qfo h.2.2.2.2.1 h.2.2.2.1 j) ≤ 1)
      by_cases c : j = (qdo h.2.2.2.2.1).toNat
      · rw [if_pos c] at h32'
        rw [if_pos c, if_pos c]
        exact ⟨hc.1 _ (by omega), hv h32'⟩
      · rw [if_neg c] at h32'
        rw [if_neg c, if_neg c]
        have hlt : (j : Int) < qdo h.2.2.2.2.1 := by omega
        have hk : (((if 40 ≤ h.2.2.2.2.1 then j + 1 else j : Nat)) : Int) < h.2.2.2.2.2 := by
          have h9 := hlt
          unfold qdo at h9
          by_cases c4 : 40 ≤ h.2.2.2.2.1
          · rw [if_pos c4] at h9 ⊢
            omega
          · rw [if_neg c4] at h9 ⊢
            omega
        rw [qfo_c _ _ j hlt] at h32'
        rw [qfo_c _ _ j hlt, qfo_c _ _ j hlt]
        exact hc.2 _ hk h32'
theorem qSW_und {h : qHS} (hd : 0 < h.2.2.2.2.1 ∧ h.2.2.2.2.1 ≤ h.2.2.2.2.2) (hc : qSW h) : qSW (qund h) := by
  refine ⟨fun k hk => ?_, hc.2⟩
  show 0 ≤ (if k = (h.2.1 (h.2.2.2.2.1 - 1).toNat).toNat then h.2.2.1 (h.2.2.2.2.1 - 1).toNat else h.1 k) ∧ (if k = (h.2.1 (h.2.2.2.2.1 - 1).toNat).toNat then h.2.2.1 (h.2.2.2.2.1 - 1).toNat else h.1 k) ≤ 1
  by_cases c : k = (h.2.1 (h.2.2.2.2.1 - 1).toNat).toNat
  · rw [if_pos c]
    exact (hc.2 (h.2.2.2.2.1 - 1).toNat (by omega) (by omega)).1
  · rw [if_neg c]
    exact hc.1 k hk
theorem qSW_red {h : qHS} (hd : 0 ≤ h.2.2.2.2.1 ∧ h.2.2.2.2.1 < h.2.2.2.2.2) (hc : qSW h) : qSW (qred h) := by
  refine ⟨fun k hk => ?_, hc.2⟩
  show 0 ≤ (if k = (h.2.1 h.2.2.2.2.1.toNat).toNat then h.2.2.2.1 h.2.2.2.2.1.toNat else h.1 k) ∧ (if k = (h.2.1 h.2.2.2.2.1.toNat).toNat then h.2.2.2.1 h.2.2.2.2.1.toNat else h.1 k) ≤ 1
  by_cases c : k = (h.2.1 h.2.2.2.2.1.toNat).toNat
  · rw [if_pos c]
    exact (hc.2 h.2.2.2.2.1.toNat (by omega) (by omega)).2
  · rw [if_neg c]
    exact hc.1 k hk
theorem qSW_new {m : Nat → Int} {h : (Nat → Int) × (Nat → Int) × (Nat → Int) × Int × Int} {a : Nat} {x : Int} (hx : a < 32 → 0 ≤ x ∧ x ≤ 1) (hc : qSW (m, h)) : qSW (qzu m a x, h) := by
  refine ⟨fun k hk => ?_, hc.2⟩
  show 0 ≤ (if k = a then x else m k) ∧ (if k = a then x else m k) ≤ 1
  by_cases c : k = a
  · rw [if_pos c]
    exact hx (by omega)
  · rw [if_neg c]
    exact hc.1 k hk
theorem qSW_kn : ∀ (l : List Int) (h : qHS), (∀ x ∈ l, 0 ≤ x) → (0 ≤ h.2.2.2.2.1 ∧ h.2.2.2.2.1 ≤ h.2.2.2.2.2) → qSW h → qSW (qkn l h)
  | [], _, _, _, hc => hc
  | x :: l, h, hx, hd, hc => by
    have e : qkn (x :: l) h = qkn l (qbec h (192 + x) 6) := rfl
    have x0 := hx x (List.mem_cons_self ..)
    rw [e]
    refine qSW_kn l _ (fun y hy => hx y (List.mem_cons_of_mem _ hy)) ?_ (qSW_bec hd (fun z => absurd z (by omega)) hc)
    by_cases c : h.1 (192 + x).toNat = 6
    · rw [show qbec h (192 + x) 6 = h from if_pos c]
      exact hd
    · rw [show qbec h (192 + x) 6 = _ from if_neg c]
      show 0 ≤ qdo h.2.2.2.2.1 + 1 ∧ qdo h.2.2.2.2.1 + 1 ≤ qdo h.2.2.2.2.1 + 1
      unfold qdo
      split <;> omega
/-- customs alike -/
def qDK (κ : Nat → Option Nat) (ρ : Nat) : Prop := ∃ a b : Nat, κ 0 = some a ∧ κ 1 = some b ∧ ¬ a = b ∧ ¬ a = ρ ∧ ¬ b = ρ
def qAg (f g : (Nat → Int) → Int) : Prop := ∀ N : Nat → Int, (0 ≤ N 0 ∧ N 0 ≤ 1) → (0 ≤ N 3 ∧ N 3 ≤ 1) → f N = g N
theorem qAg_rf (f : (Nat → Int) → Int) : qAg f f := fun _ _ _ => rfl
def qRC (σ α : Nat → Nat → Int) (κ : Nat → Option Nat) (ρ : Nat) : Prop := qDK κ ρ ∧ (∃ f g : (Nat → Int) → Int, qPW σ α κ (0 : Int).toNat f ∧ qPG σ α 0 g ∧ qAg f g) ∧ ∃ f g : (Nat → Int) → Int, qPW σ α κ (1 : Int).toNat f ∧ qPG σ α 1 g ∧ qAg f g
theorem qRC_fr {S : List (Nat × Nat)} {R : List Nat} {σ α σ' α' : Nat → Nat → Int} {κ : Nat → Option Nat} {ρ : Nat} (hG : qFr S R σ α σ' α') (hs : [(50, 5), (50, 6), (54, 5), (54, 6), (82, 5), (82, 6)].all (fun x => !S.contains x) = true) (hr : [52, 56, 84].all (fun x => !R.contains x) = true) (hs2 : ([] : List (Nat × Nat)).all (fun x => !S.contains x) = true) (hr2 : [107, 108].all (fun x => !R.contains x) = true) (h : qRC σ α κ ρ) : qRC σ' α' κ ρ := by
  obtain ⟨hd, ⟨f0, g0, a0, b0, c0⟩, ⟨f1, g1, a1, b1, c1⟩⟩ := h
  exact ⟨hd, ⟨f0, g0, qPW_fr hG hs hr a0, qPG_fr hG hs2 hr2 b0, c0⟩, ⟨f1, g1, qPW_fr hG hs hr a1, qPG_fr hG hs2 hr2 b1, c1⟩⟩
/-- what the reference's side asks for -/
theorem qrr_zf {σ α : Nat → Nat → Int} {κ : Nat → Option Nat} {ρ : Nat} (hI : qI σ α κ ρ) (h : qRF σ α) : qZf σ α := fun f hf => by
  have b16 : 0 ≤ σ 86 16 ∧ σ 86 16 ≤ 40 := hI.1 86 16
  obtain ⟨_, _, _, f4, _, f6⟩ := h
  have a1 : 0 ≤ α 97 f ∧ α 97 f ≤ 31 := hI.2.1 97 f (show f < 40 by omega)
  have a2 : 0 ≤ α 98 f ∧ α 98 f ≤ 31 := hI.2.1 98 f (show f < 40 by omega)
  have a3 : 0 ≤ α 31 f ∧ α 31 f ≤ 3 := hI.2.1 31 f (show f < 40 by omega)
  rw [f4] at a3
  have a4 := f6 f hf
  omega
theorem qrr_zk {σ α : Nat → Nat → Int} (hI24 : 0 ≤ σ 86 24 ∧ σ 86 24 ≤ 60) (hR : qR σ α) (hP : qRP σ α) (hH : qRH σ α) : qZk σ α := fun k hk => by
  have h1 := hP.2.2.2.2 k hk
  have h2 := hR.2.2.1
  have h3 := hH.1.1.2 k (by omega)
  have h4 : α 35 k = α 87 (192 + k) := hH.1.1.1.2.2.1 k (by omega)
  have h5 : qsh (α 87) 192 k = α 87 (192 + k) := rfl
  rw [h5, ← h4]
  refine ⟨?_, h1⟩
  rcases h3 with h3 | h3
  · omega
  · have := h3.1
    omega
theorem qrr_zp {σ α : Nat → Nat → Int} {κ : Nat → Option Nat} {ρ : Nat} (hI : qI σ α κ ρ) (hP : qRP σ α) : qZp σ α := fun k hk => by
  have h := hI.1 34 7
  have h2 : 0 ≤ σ 34 7 ∧ σ 34 7 ≤ 60 := h
  have h3 : 0 ≤ α 102 k ∧ α 102 k ≤ 31 := hI.2.1 102 k (show k < 60 by omega)
  rw [hP.1]
  exact h3
/-- a peace between two, on both sides -/
theorem qrr_h {σ α : Nat → Nat → Int} {κ : Nat → Option Nat} {ρ : Nat} (hI : qI σ α κ ρ) (hR : qR σ α) (hP : qRP σ α) (hH : qRH σ α) (hL : qRL σ α) {p q h : Int} (hp : 0 ≤ p ∧ p < σ 86 6) (hq : 0 ≤ q ∧ q < σ 86 6) {k : Nat} (hk : (k : Int) < σ 86 24) : qhF (α 35) (α 36) (α 37) (α 40) (qcv (α 41)) (qlw (α 22)) p q h k = qhF (qsh (α 87) 192) (α 102) (α 103) (qun (α 104) (α 105) (qsh (α 87) 192)) (qcw (α 87)) (qll (α 91)) p q h k := by
  have b6 : 0 ≤ σ 86 6 ∧ σ 86 6 ≤ 32 := hI.1 86 6
  have b24 : 0 ≤ σ 86 24 ∧ σ 86 24 ≤ 60 := hI.1 86 24
  have e6 := hR.1
  have e24 := hR.2.2.1
  obtain ⟨p1, p2, p3, p4, _⟩ := hP
  have k1 : α 35 k = qsh (α 87) 192 k := hH.1.1.1.2.2.1 k (by omega)
  have cv : ∀ x : Int, 0 ≤ x → x < 32 → qcv (α 41) k x = qcw (α 87) k x := fun x h1 h2 => by
    have h3 := hH.1.1.1.2.2.2.1 k (by omega) x ⟨h1, by omega⟩
    rw [if_pos h2] at h3
    exact h3
  have g1 : 0 ≤ α 102 k ∧ α 102 k ≤ 31 := hI.2.1 102 k (show k < 60 by omega)
  have lw : ∀ x : Int, 0 ≤ x → x < σ 86 6 → qlw (α 22) x (α 102 k) = qll (α 91) x (α 102 k) := fun x h1 h2 => by
    have h3 := hL x.toNat (by omega) (α 102 k) ⟨g1.1, by omega⟩
    rw [show ((x.toNat : Nat) : Int) = x by omega] at h3
    exact h3
  have hu := hH.1.1.2 k (by omega)
  unfold qhF
  rw [p1, p2, cv p hp.1 (by omega), cv q hq.1 (by omega), lw p hp.1 hp.2, lw q hq.1 hq.2, ← k1]
  rcases hu with hu | hu
  · unfold qho
    rw [if_pos (by omega), if_pos (by omega)]
  · have e : α 40 k = qun (α 104) (α 105) (qsh (α 87) 192) k := by
      have h3 : α 40 k = α 38 k + (if α 35 k = 2 then α 39 k else 0) := hu.2
      rw [h3, p3, p4, k1]
      rfl
    rw [e]
theorem qrr_b {σ α : Nat → Nat → Int} {κ : Nat → Option Nat} {ρ : Nat} (hI : qI σ α κ ρ) (hP : qRP σ α) (hH : qRH σ α) {p : Int} (hp : 0 ≤ p ∧ p < 32) {k : Nat} (hk : (k : Int) < σ 86 24) : qBc σ α p k = qBm σ α p k := by
  have b24 : 0 ≤ σ 86 24 ∧ σ 86 24 ≤ 60 := hI.1 86 24
  have h3 := hH.1.1.1.2.2.2.1 k (by omega) p ⟨hp.1, by omega⟩
  rw [if_pos hp.2] at h3
  have h4 : qcv (α 41) k p = qcw (α 87) k p := h3
  unfold qBc qBm qbF
  rw [hP.1, h4]
/-- ties on both sides -/
theorem qrr_d {σ α : Nat → Nat → Int} (h2 : qR2 σ α) {x y : Int} (hx : 0 ≤ x ∧ x < 32) (hy : 0 ≤ y ∧ y < 32) : (qTb (α 24) x y = qd9 (α 94) (α 95) (σ 86 11) x y ∧ qTb (α 24) x y ≤ 9) ∨ (9 < qTb (α 24) x y ∧ qd9 (α 94) (α 95) (σ 86 11) x y = 99) := by
  have h := h2.2.2 x y hx hy
  by_cases l : qTb (α 24) x y ≤ 9
  · exact Or.inl ⟨qd9_of h (Or.inl ⟨rfl, l⟩), l⟩
  · exact Or.inr ⟨by omega, (qd9_of h (v := 99) (Or.inr ⟨rfl, by omega⟩)).symm⟩
theorem qrr_m {σ α : Nat → Nat → Int} (h2 : qR2 σ α) {x y : Int} (hx : 0 ≤ x ∧ x < 32) (hy : 0 ≤ y ∧ y < 32) : qm9 (qTb (α 24) x y) = qm9 (qd9 (α 94) (α 95) (σ 86 11) x y) := by
  have h := qrr_d h2 hx hy
  unfold qm9
  rcases h with h | h
  · rw [← h.1]
  · rw [h.2, if_neg (by omega), if_neg (by decide)]
theorem qrr_k {σ α : Nat → Nat → Int} {κ : Nat → Option Nat} {ρ : Nat} (hI : qI σ α κ ρ) (hR : qR σ α) (h2 : qR2 σ α) (hF : qRF σ α) (hH : qRH σ α) (hN : qRN σ α) {p q h : Int} (hp : 0 ≤ p ∧ p < 32) (hq : 0 ≤ q ∧ q < 32) : qnF (qTb (α 24)) (α 28) (α 29) (α 31) (α 30) (α 33) (σ 27 6) (σ 27 7) p q h = qnF (qd9 (α 94) (α 95) (σ 86 11)) (α 97) (α 98) (α 100) (α 99) (qsh (α 87) 32) (σ 86 22) (σ 86 16) p q h := by
  have b16 : 0 ≤ σ 86 16 ∧ σ 86 16 ≤ 40 := hI.1 86 16
  obtain ⟨f1, f2, f3, f4, f5, f6⟩ := hF
  have r31 : ∀ k : Nat, k < 40 → 0 ≤ α 100 k ∧ α 100 k ≤ 3 := fun k hk => by
    have h3 : 0 ≤ α 31 k ∧ α 31 k ≤ 3 := hI.2.1 31 k hk
    rw [f4] at h3
    exact h3
  rw [hR.2.1, hN.2.1, hN.2.2.2.1, f1, f2, f3, f4]
  unfold qnF
  refine qnk_eq _ (fun k hk => ⟨?_, ?_⟩)
  · have e : α 33 k = qsh (α 87) 32 k := hH.1.1.1.2.1 k (by omega)
    unfold qoF
    rw [e]
  · have a1 : 0 ≤ α 97 k ∧ α 97 k ≤ 31 := hI.2.1 97 k (show k < 40 by omega)
    have a2 : 0 ≤ α 98 k ∧ α 98 k ≤ 31 := hI.2.1 98 k (show k < 40 by omega)
    have a3 := r31 k (by omega)
    have d1 := qrr_d h2 (x := p) (y := α 97 k) hp (by omega)
    have d2 := qrr_d h2 (x := q) (y := α 98 k) hq (by omega)
    have d3 := qrr_d h2 (x := q) (y := α 97 k) hq (by omega)
    have d4 := qrr_d h2 (x := p) (y := α 98 k) hp (by omega)
    have c1 := qcl_c (qTb (α 24) p (α 97 k)) (qTb (α 24) q (α 98 k)) (qTb (α 24) q (α 97 k)) (qTb (α 24) p (α 98 k)) (α 100 k)
    have c2 := qcl_c (qd9 (α 94) (α 95) (σ 86 11) p (α 97 k)) (qd9 (α 94) (α 95) (σ 86 11) q (α 98 k)) (qd9 (α 94) (α 95) (σ 86 11) q (α 97 k)) (qd9 (α 94) (α 95) (σ 86 11) p (α 98 k)) (α 100 k)
    show qcl (qTb (α 24) p (α 97 k)) (qTb (α 24) q (α 98 k)) (qTb (α 24) q (α 97 k)) (qTb (α 24) p (α 98 k)) (α 100 k) = qcl (qd9 (α 94) (α 95) (σ 86 11) p (α 97 k)) (qd9 (α 94) (α 95) (σ 86 11) q (α 98 k)) (qd9 (α 94) (α 95) (σ 86 11) q (α 97 k)) (qd9 (α 94) (α 95) (σ 86 11) p (α 98 k)) (α 100 k)
    omega
theorem qrr_l {σ α : Nat → Nat → Int} {κ : Nat → Option Nat} {ρ : Nat} (hI : qI σ α κ ρ) (hR : qR σ α) (hL : qRL σ α) {p q : Int} (hp : 0 ≤ p ∧ p < σ 86 6) (hq : 0 ≤ q ∧ q < 32) (hpq : ¬ p = q) : qbit (α 22 (p : Int).toNat) q = qll (α 91) (α 91 (p : Int).toNat) q := by
  have b6 : 0 ≤ σ 86 6 ∧ σ 86 6 ≤ 32 := hI.1 86 6
  have e6 := hR.1
  have h3 := hL p.toNat (by omega) q ⟨hq.1, by omega⟩
  rw [show ((p.toNat : Nat) : Int) = p by omega] at h3
  have h4 := qll_s (ld := α 91) (l := q) (fun j hj => by have h1 := hI.2.2.2.2.2.2.1 j hj; have h2 : -1 ≤ α 91 j ∧ α 91 j ≤ 31 := hI.2.1 91 j hj; omega) (a := p) (by omega)
  rw [h3]
  omega
theorem qrr_s {σ α : Nat → Nat → Int} (hR : qR σ α) (hN : qRN σ α) (h6 : 0 ≤ σ 86 6 ∧ σ 86 6 ≤ 32) {p t : Int} : qsm (qshF (α 18) p t) (σ 17 6 : Int).toNat = qsm (qshD (α 91) p t 0 (σ 86 41)) (σ 86 6 : Int).toNat := by
  rw [hR.1, hR.2.2.2.1, hN.2.2.2.2.2]
  refine qsm_eq _ (fun k hk => ?_)
  have c1 := qshF_c (α 91) p t (i := (k : Int)) (by omega)
  have c2 := qshD_c (α 91) p t 0 0 (i := (k : Int)) (by omega)
  have c6 := qbit_0 (k : Int)
  rw [Int.toNat_natCast] at c1 c2
  omega
theorem qrr_n {σ α : Nat → Nat → Int} {κ : Nat → Option Nat} {ρ : Nat} (hI : qI σ α κ ρ) (hR : qR σ α) (h2 : qR2 σ α) (hF : qRF σ α) (hP : qRP σ α) (hH : qRH σ α) (hL : qRL σ α) (hN : qRN σ α) {h b p q st t : Int} (hp : 0 ≤ p ∧ p < σ 86 6) (hq : 0 ≤ q ∧ q < σ 86 6) (hpq : ¬ p = q) (hst : st = -1 ∨ (0 ≤ st ∧ st < σ 86 6)) : qNVc (qw_s σ 58 11 h) α b p q st t = qNVr σ α b 0 p q st t h := by
  have b6 : 0 ≤ σ 86 6 ∧ σ 86 6 ≤ 32 := hI.1 86 6
  have b24 : 0 ≤ σ 86 24 ∧ σ 86 24 ≤ 60 := hI.1 86 24
  have hk := qrr_k hI hR h2 hF hH hN (p := p) (q := q) (h := h) (by omega) (by omega)
  have hh : qsm (qhG b (qhF (α 35) (α 36) (α 37) (α 40) (qcv (α 41)) (qlw (α 22)) p q h)) (σ 34 7 : Int).toNat = qsm (qhG b (qhF (qsh (α 87) 192) (α 102) (α 103) (qun (α 104) (α 105) (qsh (α 87) 192)) (qcw (α 87)) (qll (α 91)) p q h)) (σ 86 24 : Int).toNat := by
    rw [hR.2.2.1]
    refine qsm_eq _ (fun k hk => ?_)
    unfold qhG
    rw [qrr_h hI hR hP hH hL hp hq (show (k : Int) < σ 86 24 by omega)]
  have e1 : α 20 (p : Int).toNat = α 87 (p : Int).toNat := hH.1.1.1.1 _ (by omega)
  have e2 : α 20 (q : Int).toNat = α 87 (q : Int).toNat := hH.1.1.1.1 _ (by omega)
  have e3 := qrr_l hI hR hL hp (by omega : 0 ≤ q ∧ q < 32) hpq
  have e4 := qrr_m h2 (x := p) (y := q) (by omega) (by omega)
  have e5 := qrr_s hR hN b6 (p := p) (t := t)
  have e6 : (if st = -1 then 0 else qm9 (qTb (α 24) p st)) = (if st = -1 then 0 else qm9 (qd9 (α 94) (α 95) (σ 86 11) p st)) := by
    rcases hst with e | e
    · rw [if_pos e, if_pos e]
    · rw [if_neg (by omega), if_neg (by omega)]
      exact qrr_m h2 (by omega) (by omega)
  show qnv (qnF1 (qnF (qTb (α 24)) (α 28) (α 29) (α 31) (α 30) (α 33) (σ 27 6) (σ 27 7) p q h)) (qnF (qTb (α 24)) (α 28) (α 29) (α 31) (α 30) (α 33) (σ 27 6) (σ 27 7) p q h / 64) (qsm (qhG b (qhF (α 35) (α 36) (α 37) (α 40) (qcv (α 41)) (qlw (α 22)) p q h)) (σ 34 7 : Int).toNat) (α 20 (p : Int).toNat) (α 20 (q : Int).toNat) (qbit (α 22 (p : Int).toNat) q) (qm9 (qTb (α 24) p q)) (qsm (qshF (α 18) p t) (σ 17 6 : Int).toNat) (if st = -1 then 0 else qm9 (qTb (α 24) p st)) = _
  rw [hk, hh, e1, e2, e3, e4, e5, e6]
  rfl
/-- what a custom gives for two, on both sides -/
theorem qrr_ag {σ α : Nat → Nat → Int} {κ : Nat → Option Nat} {ρ : Nat} (hI : qI σ α κ ρ) (hR : qR σ α) (h2 : qR2 σ α) (hF : qRF σ α) (hP : qRP σ α) (hH : qRH σ α) (hL : qRL σ α) (hN : qRN σ α) (hW : qRS σ α) {f g : (Nat → Int) → Int} (hA : qAg f g) {h b p q st t : Int} (hp : 0 ≤ p ∧ p < σ 86 6) (hq : 0 ≤ q ∧ q < σ 86 6) (hpq : ¬ p = q) (hst : st = -1 ∨ (0 ≤ st ∧ st < σ 86 6)) : f (qNVc (qw_s σ 58 11 h) α b p q st t) = g (qNVr σ α b 0 p q st t h) := by
  have b6 : 0 ≤ σ 86 6 ∧ σ 86 6 ≤ 32 := hI.1 86 6
  have hn := qrr_n hI hR h2 hF hP hH hL hN (h := h) (b := b) (t := t) hp hq hpq hst
  rw [← hn]
  refine hA _ ?_ ?_
  · show 0 ≤ qnF1 (qnF (qTb (α 24)) (α 28) (α 29) (α 31) (α 30) (α 33) (σ 27 6) (σ 27 7) p q h) ∧ qnF1 (qnF (qTb (α 24)) (α 28) (α 29) (α 31) (α 30) (α 33) (σ 27 6) (σ 27 7) p q h) ≤ 1
    unfold qnF1
    split <;> omega
  · show 0 ≤ α 20 (p : Int).toNat ∧ α 20 (p : Int).toNat ≤ 1
    have e1 : α 20 (p : Int).toNat = α 87 (p : Int).toNat := hH.1.1.1.1 _ (by omega)
    rw [e1]
    exact hW.1 (p : Int).toNat (by omega)
/-- two tellings, one and the same -/
theorem qrr_t {σ α : Nat → Nat → Int} {κ : Nat → Option Nat} {ρ : Nat} (hI : qI σ α κ ρ) (hR : qR σ α) (h2 : qR2 σ α) (hF : qRF σ α) (hP : qRP σ α) (hH : qRH σ α) (hL : qRL σ α) (hN : qRN σ α) (hW : qRS σ α) {f0 f1 g0 g1 : (Nat → Int) → Int} (hA0 : qAg f0 g0) (hA1 : qAg f1 g1) {h LV v : Int} (hv : (0 ≤ v / 100 ∧ v / 100 < σ 86 6) ∧ (0 ≤ v % 100 ∧ v % 100 < σ 86 6) ∧ ¬ v / 100 = v % 100) : qFINc σ α f0 f1 h LV v = qFINm σ α g0 g1 h LV v := by
  have b6 : 0 ≤ σ 86 6 ∧ σ 86 6 ≤ 32 := hI.1 86 6
  have b24 : 0 ≤ σ 86 24 ∧ σ 86 24 ≤ 60 := hI.1 86 24
  unfold qFINc qFINm
  rw [hR.1, hR.2.2.1]
  refine qtell_cl b6.2 hv (fun b p q h1 h2' h3 h4 h5 k hk => ?_) (fun p h1 h2' k hk => qrr_b hI hP hH (by omega) (by omega)) (fun b p q st t h1 h2' h3 h4 h5 h6 h7 => ?_) (fun b p q t h1 h2' h3 h4 h5 => ?_) LV
  · show qhG b (qhF (α 35) (α 36) (α 37) (α 40) (qcv (α 41)) (qlw (α 22)) p q h) k = qhG b (qhF (qsh (α 87) 192) (α 102) (α 103) (qun (α 104) (α 105) (qsh (α 87) 192)) (qcw (α 87)) (qll (α 91)) p q h) k
    unfold qhG
    rw [qrr_h hI hR hP hH hL ⟨h1, h2'⟩ ⟨h3, h4⟩ (by omega)]
  · have hA := qrr_ag hI hR h2 hF hP hH hL hN hW (h := h) (b := b) (st := st) (t := t) hA1 ⟨h1, h2'⟩ ⟨h3, h4⟩ h5 (Or.inr ⟨h6, h7⟩)
    show (if (1 : Int) = 0 then f0 (qNVc (qw_s σ 58 11 h) α b p q st t) else f1 (qNVc (qw_s σ 58 11 h) α b p q st t)) = (if (1 : Int) = 0 then g0 (qNVr σ α b 0 p q st t h) else g1 (qNVr σ α b 0 p q st t h))
    rw [if_neg (by decide), if_neg (by decide)]
    exact hA
  · have hA := qrr_ag hI hR h2 hF hP hH hL hN hW (h := h) (b := b) (st := -1) (t := t) hA0 ⟨h1, h2'⟩ ⟨h3, h4⟩ h5 (Or.inl rfl)
    show (if (0 : Int) = 0 then f0 (qNVc (qw_s σ 58 11 h) α b p q (-1) t) else f1 (qNVc (qw_s σ 58 11 h) α b p q (-1) t)) = (if (0 : Int) = 0 then g0 (qNVr σ α b 0 p q (-1) t h) else g1 (qNVr σ α b 0 p q (-1) t h))
    rw [if_pos rfl, if_pos rfl]
    exact hA
end
section
/-! makers and what both sides hold alike -/
theorem qFr_nil {S : List (Nat × Nat)} {R : List Nat} {σ α σ' α' : Nat → Nat → Int} (hG : qFr S R σ α σ' α') (hs : ∀ x ∈ S, σ' x.1 x.2 = σ x.1 x.2) (hr : ∀ a ∈ R, α' a = α a) : qFr [] [] σ α σ' α' := by
  refine ⟨fun a k _ => ?_, fun a _ => ?_⟩
  · by_cases c : (a, k) ∈ S
    · exact hs (a, k) c
    · exact hG.1 a k c
  · by_cases c : a ∈ R
    · exact hr a c
    · exact hG.2 a c
theorem qFr_tr {S1 S2 : List (Nat × Nat)} {R1 R2 : List Nat} {σ α σ1 α1 σ2 α2 : Nat → Nat → Int} (h1 : qFr S1 R1 σ α σ1 α1) (h2 : qFr S2 R2 σ1 α1 σ2 α2) : qFr (S1 ++ S2) (R1 ++ R2) σ α σ2 α2 := by
  refine ⟨fun a k h => ?_, fun a h => ?_⟩
  · rw [h2.1 a k (fun z => h (List.mem_append_right _ z)), h1.1 a k (fun z => h (List.mem_append_left _ z))]
  · rw [h2.2 a (fun z => h (List.mem_append_right _ z)), h1.2 a (fun z => h (List.mem_append_left _ z))]
/-- where a change lies -/
theorem qat_at {po fo eo s p : Int} (h : qpl4 po fo eo s p) (h1 : po ≤ 32) (h2 : fo ≤ 40) (h3 : eo ≤ 60) : (0 ≤ qat s p ∧ qat s p < po) ∨ (32 ≤ qat s p ∧ qat s p < 32 + fo) ∨ (72 ≤ qat s p ∧ qat s p < 72 + 2 * eo) ∨ (192 ≤ qat s p ∧ qat s p < 192 + eo) := by
  unfold qat
  rcases h with h | h | h | h
  · rw [if_pos h.1]; omega
  · rw [if_neg (by omega), if_pos h.1]; omega
  · rw [if_neg (by omega), if_neg (by omega), if_pos h.1]; omega
  · rw [if_neg (by omega), if_neg (by omega), if_neg (by omega)]; omega
/-- along lords, one who came behind does not count -/
theorem qlc_u {ld : Nat → Int} {l x : Int} {s : Nat} (h : ∀ j : Nat, j < s → ld j < (j : Int)) : ∀ (n : Nat) (a : Int), a < (s : Int) → qlc (qzu ld s x) l n a = qlc ld l n a
  | 0, _, _ => rfl
  | n + 1, a, ha => by
    show (if a < 0 then 0 else if a = l then 1 else qlc (qzu ld s x) l n (qzu ld s x a.toNat)) = (if a < 0 then 0 else if a = l then 1 else qlc ld l n (ld a.toNat))
    by_cases c : a < 0
    · rw [if_pos c, if_pos c]
    · have e : qzu ld s x a.toNat = ld a.toNat := if_neg (by omega)
      have hj := h a.toNat (by omega)
      rw [if_neg c, if_neg c, e, qlc_u h n (ld a.toNat) (by omega)]
theorem qll_u {ld : Nat → Int} {l x a : Int} {s : Nat} (h : ∀ j : Nat, j < s → ld j < (j : Int)) (ha : a < (s : Int)) : qll (qzu ld s x) a l = qll ld a l := qlc_u h 33 a ha
theorem qlc_lt {ld : Nat → Int} {l b : Int} (h : ∀ j : Nat, (j : Int) < b → ld j < (j : Int)) : ∀ (n m : Nat) (a : Int), a < (n : Int) → a < (m : Int) → a < b → qlc ld l n a = qlc ld l m a := by
  intro n
  induction n with
  | zero =>
    intro m a h1 h2 h3
    cases m with
    | zero => rfl
    | succ m => exact (if_pos (show a < 0 by omega)).symm
  | succ n ih =>
    intro m a h1 h2 h3
    cases m with
    | zero => exact if_pos (show a < 0 by omega)
    | succ m =>
      show (if a < 0 then 0 else if a = l then 1 else qlc ld l n (ld a.toNat)) = (if a < 0 then 0 else if a = l then 1 else qlc ld l m (ld a.toNat))
      by_cases e : a < 0
      · rw [if_pos e, if_pos e]
      · have hj := h a.toNat (by omega)
        rw [if_neg e, if_neg e, ih m (ld a.toNat) (by omega) (by omega) (by omega)]
/-- a new number that may change -/
theorem qHq_new {σ α σ' α' : Nat → Nat → Int} {m : Nat → Int} {h : (Nat → Int) × (Nat → Int) × (Nat → Int) × Int × Int} {m' : Nat → Int} (hq : qHq σ α (m, h)) (hm : qRm α' m') (hu : ∀ k : Nat, (k : Int) < σ' 34 7 → α' 35 k = 6 ∨ ((0 ≤ α' 35 k ∧ α' 35 k ≤ 5) ∧ qUn α' k (α' 35 k))) (f1 : σ 17 6 ≤ σ' 17 6) (f2 : σ 27 7 ≤ σ' 27 7) (f3 : σ 34 7 ≤ σ' 34 7) (e7 : σ' 76 7 = σ 76 7) (e8 : σ' 76 8 = σ 76 8) (e77 : α' 77 = α 77) (e78 : α' 78 = α 78) (e79 : α' 79 = α 79) (e80 : α' 80 = α 80) (hT : ∀ k : Nat, (k : Int) < σ 34 7 → ∀ b : Int, qUn α k b → qUn α' k b) : qHq σ' α' (m', h) := by
  obtain ⟨_, ⟨g7, g8⟩, hd, hE⟩ := hq
  refine ⟨⟨hm, hu⟩, ⟨e7.trans g7, e8.trans g8⟩, hd, fun j hj => ?_⟩
  have h1 := hE j hj
  rw [e77, e78, e79, e80]
  have h2 := qEn_up h1 f1 f2 f3
  refine ⟨h2.1, h2.2.1, h2.2.2.1, h2.2.2.2.1, fun hs => ?_⟩
  have h3 := h1.2.2.2.2 hs
  refine ⟨h3.1, h3.2.1, hT _ ?_ _ h3.2.2⟩
  have h4 := h1.1
  unfold qpl4 at h4
  omega
theorem qCh_new {m : Nat → Int} {h : (Nat → Int) × (Nat → Int) × (Nat → Int) × Int × Int} {σ α : Nat → Nat → Int} {a : Nat} {x : Int} (hq : qHq σ α (m, h)) (h1 : 0 ≤ σ 17 6 ∧ σ 17 6 ≤ 32) (h2 : 0 ≤ σ 27 7 ∧ σ 27 7 ≤ 40) (h3 : 0 ≤ σ 34 7 ∧ σ 34 7 ≤ 60) (ha : (σ 17 6 ≤ (a : Int) ∧ a < 32) ∨ (32 + σ 27 7 ≤ (a : Int) ∧ a < 72) ∨ (72 + 2 * σ 34 7 ≤ (a : Int) ∧ a < 192) ∨ 192 + σ 34 7 ≤ (a : Int)) {m0 : Nat → Int} (hc : qCh (m0, h)) : qCh (qzu m0 a x, h) := by
  refine qCh_fresh (h := (m0, h)) ⟨hq.2.2.1.1, hq.2.2.1.2.1⟩ (fun j hj => ?_) hc
  have h4 := hq.2.2.2 j hj
  have h5 := qat_at h4.1 h1.2 h2.2 h3.2
  rw [← h4.2.1] at h5
  have h6 : ((m0, h) : qHS).2.1 = h.1 := rfl
  have h7 : ((m, h) : qHS).2.1 = h.1 := rfl
  rw [h6]
  rw [h7] at h5
  omega
/-- people: what both sides keep of them -/
def qPP (σ α : Nat → Nat → Int) (s : Int) (t : qTC) (u : qTM) : Prop := (t.1 = u.1 ∧ t.2.1 = u.2.1) ∧ (σ 17 6 ≤ s ∧ s ≤ 32) ∧ (qHq (qw_s σ 17 6 s) (qw_r α 20 t.2.2.1) (u.2.2, α 88, α 89, α 90, σ 86 5, σ 86 4) ∧ qCh (u.2.2, α 88, α 89, α 90, σ 86 5, σ 86 4)) ∧ (∀ p : Nat, (p : Int) < s → ∀ l : Int, (0 ≤ l ∧ l < 64) → qbit (t.2.2.2 p) l = qll u.1 (p : Int) l) ∧ ∀ p : Nat, (p : Int) < s → u.1 p < (p : Int)
theorem qPP_s {σ α : Nat → Nat → Int} (h2 : 0 ≤ σ 27 7 ∧ σ 27 7 ≤ 40) (h3 : 0 ≤ σ 34 7 ∧ σ 34 7 ≤ 60) (s : Int) (t : qTC) (u : qTM) (l w k : Int) (h0 : 0 ≤ s) (h32 : s < 32) (hf : qfit s l w k) (h : qPP σ α s t u) : qPP σ α (s + 1) (qstc t s l w k) (qstm u s l w k) := by
  obtain ⟨⟨a1, a2⟩, a3, ⟨a4, a5⟩, a6, a7⟩ := h
  have hz : ∀ (f : Nat → Int) (a b : Nat) (x : Int), qzu f a x b = if b = a then x else f b := fun _ _ _ _ => rfl
  obtain ⟨f1, f2, f3⟩ := hf
  have hs1 : ∀ a k : Nat, ¬ (a = 17 ∧ k = 6) → qw_s σ 17 6 (s + 1) a k = qw_s σ 17 6 s a k := fun a k hn => by
    rw [qw_s_ne hn, qw_s_ne hn]
  have hr1 : ∀ a : Nat, ¬ a = 20 → qw_r α 20 (qzu t.2.2.1 s.toNat k) a = qw_r α 20 t.2.2.1 a := fun a hn => by
    rw [qw_r_ne hn, qw_r_ne hn]
  have e6 : qw_s σ 17 6 s 17 6 = s := rfl
  have e6' : qw_s σ 17 6 (s + 1) 17 6 = s + 1 := rfl
  have g27 : qw_s σ 17 6 s 27 7 = σ 27 7 := rfl
  have g34 : qw_s σ 17 6 s 34 7 = σ 34 7 := rfl
  refine ⟨⟨?_, ?_⟩, by omega, ⟨?_, ?_⟩, fun p hp x hx => ?_, fun p hp => ?_⟩
  · show qzu t.1 s.toNat l = qzu u.1 s.toNat l
    rw [a1]
  · show qzu t.2.1 s.toNat w = qzu u.2.1 s.toNat w
    rw [a2]
  · show qHq (qw_s σ 17 6 (s + 1)) (qw_r α 20 (qzu t.2.2.1 s.toNat k)) (qzu u.2.2 s.toNat k, α 88, α 89, α 90, σ 86 5, σ 86 4)
    obtain ⟨m1, m2, m3, m4, m5⟩ := a4.1.1
    have hm : qRm (qw_r α 20 (qzu t.2.2.1 s.toNat k)) (qzu u.2.2 s.toNat k) := by
      refine ⟨fun j hj => ?_, fun j hj => ?_, fun j hj => ?_, fun j hj x hx => ?_, fun j hj => ?_⟩
      · have m := m1 j hj
        rw [qw_r_eq] at m ⊢
        rw [hz, hz, m]
      · have m := m2 j hj
        rw [hr1 33 (by decide), hz, if_neg (by omega)]
        exact m
      · have m := m3 j hj
        rw [hr1 35 (by decide), hz, if_neg (by omega)]
        exact m
      · have m := m4 j hj x hx
        rw [hr1 41 (by decide), m]
        by_cases d : x < 32
        · rw [if_pos d, if_pos d, qcw_o (by omega)]
        · rw [if_neg d, if_neg d]
      · rw [hz]
        split
        · omega
        · exact m5 j hj
    have hU : qUn (qw_r α 20 (qzu t.2.2.1 s.toNat k)) = qUn (qw_r α 20 t.2.2.1) := by
      unfold qUn
      rw [hr1 38 (by decide), hr1 39 (by decide), hr1 40 (by decide)]
    refine qHq_new a4 hm (fun j hj => ?_) (by omega) (Int.le_refl _) (Int.le_refl _) rfl rfl (hr1 77 (by decide)) (hr1 78 (by decide)) (hr1 79 (by decide)) (hr1 80 (by decide)) (fun j _ b hb => by rw [hU]; exact hb)
    rw [hr1 35 (by decide), hU]
    exact a4.1.2 j hj
  · show qCh (qzu u.2.2 s.toNat k, α 88, α 89, α 90, σ 86 5, σ 86 4)
    exact qCh_new a4 (by omega) (by omega) (by omega) (Or.inl ⟨by omega, by omega⟩) a5
  · show qbit (qzu t.2.2.2 s.toNat (ql_or (ql_shl 1 s) (if l < 0 then 0 else t.2.2.2 l.toNat)) p) x = qll (qzu u.1 s.toNat l) (p : Int) x
    have hlow : ∀ j : Nat, j < s.toNat → u.1 j < (j : Int) := fun j hj => a7 j (by omega)
    rw [hz]
    by_cases c : p = s.toNat
    · rw [if_pos c]
      have b1 := qbor_c (ql_shl 1 s) (if l < 0 then 0 else t.2.2.2 l.toNat) x
      have b2 := qbit_shl (p := s) (i := x) (by omega) hx.1
      have hp2 : (p : Int) = s := by omega
      have hunf : qll (qzu u.1 s.toNat l) (p : Int) x = if (p : Int) = x then 1 else qlc (qzu u.1 s.toNat l) x 32 l := by
        have e1 : qll (qzu u.1 s.toNat l) (p : Int) x = (if (p : Int) < 0 then 0 else if (p : Int) = x then 1 else qlc (qzu u.1 s.toNat l) x 32 (qzu u.1 s.toNat l (p : Int).toNat)) := rfl
        rw [e1, if_neg (by omega), Int.toNat_natCast, hz, if_pos c]
      have hl2 : qlc (qzu u.1 s.toNat l) x 32 l = qll (qzu u.1 s.toNat l) l x := by
        by_cases e : l < 0
        · exact (if_pos e : qlc (qzu u.1 s.toNat l) x 32 l = 0).trans (if_pos e : qll (qzu u.1 s.toNat l) l x = 0).symm
        · refine qlc_lt (ld := qzu u.1 s.toNat l) (b := s) (fun j hj => ?_) 32 33 l (by omega) (by omega) (by omega)
          rw [hz, if_neg (by omega)]
          exact a7 j hj
      rw [hunf]
      have r1 := qbit_r (if l < 0 then 0 else t.2.2.2 l.toNat) x
      by_cases d : x = s
      · rw [if_pos d] at b2
        rw [if_pos (show (p : Int) = x by omega)]
        omega
      · rw [if_neg d] at b2
        rw [if_neg (show ¬ (p : Int) = x by omega)]
        by_cases e : l < 0
        · have z1 : (if l < 0 then (0 : Int) else t.2.2.2 l.toNat) = 0 := if_pos e
          have z2 : qlc (qzu u.1 s.toNat l) x 32 l = 0 := if_pos e
          have z3 := qbit_0 x
          rw [z1] at b1 ⊢
          rw [z2]
          omega
        · have z1 : (if l < 0 then (0 : Int) else t.2.2.2 l.toNat) = t.2.2.2 l.toNat := if_neg e
          have z4 := a6 l.toNat (by omega) x hx
          rw [show ((l.toNat : Nat) : Int) = l by omega] at z4
          rw [z1] at b1 r1 ⊢
          rw [hl2, qll_u hlow (by omega), ← z4]
          omega
    · rw [if_neg c, qll_u hlow (by omega)]
      exact a6 p (by omega) x hx
  · show qzu u.1 s.toNat l p < (p : Int)
    rw [hz]
    by_cases c : p = s.toNat
    · rw [if_pos c]
      omega
    · rw [if_neg c]
      exact a7 p (by omega)
theorem qw_s_id {σ : Nat → Nat → Int} {a b : Nat} (x y : Nat) : qw_s σ a b (σ a b) x y = σ x y := by
  unfold qw_s
  by_cases c : x = a
  · rw [if_pos c]
    by_cases d : y = b
    · rw [if_pos d, c, d]
    · rw [if_neg d]
  · rw [if_neg c]
theorem qw_r_id {α : Nat → Nat → Int} {a : Nat} (x : Nat) : qw_r α a (α a) x = α x := by
  by_cases c : x = a
  · rw [c]
    exact qw_r_eq
  · exact qw_r_ne c
theorem qPP_0 {σ α : Nat → Nat → Int} {κ : Nat → Option Nat} {ρ : Nat} (hI : qI σ α κ ρ) (hR : qR σ α) (hH : qRH σ α) (hL : qRL σ α) : qPP σ α (σ 17 6) (α 18, α 19, α 20, α 22) (α 91, α 92, α 87) := by
  have b6 : 0 ≤ σ 86 6 ∧ σ 86 6 ≤ 32 := hI.1 86 6
  have e6 := hR.1
  refine ⟨⟨hR.2.2.2.1, hR.2.2.2.2.1⟩, ⟨Int.le_refl _, by omega⟩, ⟨qHq_c (fun a k _ => qw_s_id a k) (fun a _ => qw_r_id a) hH.1, hH.2⟩, hL, fun p hp => ?_⟩
  have h1 := hI.2.2.2.2.2.2.1 p (by omega)
  show α 91 p < (p : Int)
  omega
theorem ro_pp {σ α σ2 α2 : Nat → Nat → Int} {s : Int} {t : qTC} {u : qTM} (hR : qR σ α) (hF : qRF σ α) (hP : qPP σ α s t u) (hG : qFr [(17, 6), (86, 6), (86, 15)] [18, 19, 20, 22, 87, 91, 92] σ α σ2 α2) (e1 : σ2 17 6 = s) (e2 : σ2 86 6 = s) (et : (α2 18, α2 19, α2 20, α2 22) = t) (eu : (α2 91, α2 92, α2 87) = u) : qR σ2 α2 ∧ qRF σ2 α2 ∧ qRH σ2 α2 ∧ qRL σ2 α2 := by
  subst et
  subst eu
  obtain ⟨⟨a1, a2⟩, a3, ⟨a4, a5⟩, a6, a7⟩ := hP
  refine ⟨?_, ?_, ⟨?_, ?_⟩, ?_⟩
  · obtain ⟨r1, r2, r3, r4, r5, r6, r7, r8, r9⟩ := hR
    refine ⟨by omega, ?_, ?_, a1, a2, ?_, ?_, ?_, ?_⟩
    · rw [hG.1 27 7 (by decide), hG.1 86 16 (by decide)]; exact r2
    · rw [hG.1 34 7 (by decide), hG.1 86 24 (by decide)]; exact r3
    · rw [hG.2 21 (by decide), hG.2 93 (by decide)]; exact r6
    · rw [hG.2 46 (by decide), hG.2 122 (by decide)]; exact r7
    · rw [hG.2 45 (by decide), hG.2 47 (by decide), hG.2 121 (by decide)]; exact r8
    · rw [hG.2 46 (by decide), hG.2 48 (by decide), hG.2 123 (by decide)]; exact r9
  · obtain ⟨f1, f2, f3, f4, f5, f6⟩ := hF
    have r1 := hR.1
    refine ⟨?_, ?_, ?_, ?_, ?_, fun f hf => ?_⟩
    · rw [hG.2 28 (by decide), hG.2 97 (by decide)]; exact f1
    · rw [hG.2 29 (by decide), hG.2 98 (by decide)]; exact f2
    · rw [hG.2 30 (by decide), hG.2 99 (by decide)]; exact f3
    · rw [hG.2 31 (by decide), hG.2 100 (by decide)]; exact f4
    · rw [hG.2 32 (by decide), hG.2 101 (by decide)]; exact f5
    · have h1 := f6 f (by rw [← hG.1 86 16 (by decide)]; exact hf)
      rw [hG.2 97 (by decide), hG.2 98 (by decide)]
      omega
  · rw [hG.2 88 (by decide), hG.2 89 (by decide), hG.2 90 (by decide), hG.1 86 5 (by decide), hG.1 86 4 (by decide)]
    refine qHq_c (σ := qw_s σ 17 6 s) (α := qw_r α 20 (α2 20)) (fun a k hm => ?_) (fun a hm => ?_) a4
    · by_cases c : a = 17 ∧ k = 6
      · rw [c.1, c.2, e1]
        rfl
      · rw [qw_s_ne c]
        refine hG.1 a k (fun hn => ?_)
        revert c
        revert hn
        revert hm
        exact (by decide : ∀ x : Nat × Nat, x ∈ [(17, 6), (27, 7), (34, 7), (76, 7), (76, 8)] → x ∈ [(17, 6), (86, 6), (86, 15)] → ¬ (x.1 = 17 ∧ x.2 = 6) → False) (a, k)
    · by_cases c : a = 20
      · rw [c]
        exact qw_r_eq.symm
      · rw [qw_r_ne c]
        refine hG.2 a (fun hn => ?_)
        revert c
        revert hn
        revert hm
        exact (by decide : ∀ x : Nat, x ∈ [20, 33, 35, 38, 39, 40, 41, 77, 78, 79, 80] → x ∈ [18, 19, 20, 22, 87, 91, 92] → ¬ x = 20 → False) a
  · rw [hG.2 88 (by decide), hG.2 89 (by decide), hG.2 90 (by decide), hG.1 86 5 (by decide), hG.1 86 4 (by decide)]
    exact a5
  · intro p hp l hl
    exact a6 p (by omega) l hl
end
