set_option maxHeartbeats 4000000 in
set_option maxRecDepth 20000 in
/-- OneRoof$Guests.weightAt -/
theorem sf_114_64 {L : Nat} {xs : Nat → Int} {vb : Bool} {d : Nat} {σ α : Nat → Nat → Int} {κ : Nat → Option Nat} {ρ : Nat} {x1 : Int} (hI : qI σ α κ ρ) (r1 : 0 ≤ x1 ∧ x1 ≤ 11) : qm_T (qe L xs vb) (d + 1) 114 [.ref 64, .int (qz x1)] (qw σ α κ ρ) (fun r w' => w' = qw σ α κ ρ ∧ ∃ v : Int, r = some (.int (qz v)) ∧ (0 ≤ v ∧ v ≤ 99)) := by
  refine qr_start (d := d + 0) qv_e114 (Nat.le_of_ble_eq_true rfl) ?_
  show qr_W (qe L xs vb) (d + 0) qx_e114 _ (0, [(0, .ref 64), (1, .int (qz x1))], [], _, 0, 0)
  refine qr_aload_n 1 rfl rfl rfl ?_
  refine qr_get 4 rfl rfl rfl (by decide) rfl ?_
  refine qr_get 7 rfl rfl rfl (by decide) rfl ?_
  refine qr_get 10 rfl rfl rfl (by decide) rfl ?_
  refine qr_aload_n 11 rfl rfl rfl ?_
  refine qr_get 14 rfl rfl rfl (by decide) rfl ?_
  refine qr_iload_n 15 rfl rfl rfl ?_
  refine qr_iaload 16 rfl rfl (by omega) (by decide) rfl ?_
  refine qr_topI (fun v1 hv1 => ?_)
  have hs2 : 0 ≤ v1 ∧ v1 ≤ 31 := by rw [hv1]; exact hI.2.1 65 _ (show _ < 12 by omega)
  refine qr_iaload 17 rfl rfl (by omega) (by decide) rfl ?_
  refine qr_topI (fun v3 hv3 => ?_)
  have hs4 : 0 ≤ v3 ∧ v3 ≤ 99 := by rw [hv3]; exact hI.2.1 19 _ (show _ < 32 by omega)
  refine qr_retI rfl rfl (by decide) (by decide) ?_
  exact ⟨rfl, v3, rfl, by omega⟩

set_option maxHeartbeats 4000000 in
set_option maxRecDepth 20000 in
/-- OneRoof$Guests.calmWeight -/
theorem sf_113_64 {L : Nat} {xs : Nat → Int} {vb : Bool} {d : Nat} {σ α : Nat → Nat → Int} {κ : Nat → Option Nat} {ρ : Nat} {x1 : Int} (hI : qI σ α κ ρ) (r1 : (-2147483648) ≤ x1 ∧ x1 ≤ 2147483647) : qm_T (qe L xs vb) (d + 2) 113 [.ref 64, .int (qz x1)] (qw σ α κ ρ) (fun r w' => w' = qw σ α κ ρ ∧ ∃ v : Int, r = some (.int (qz v)) ∧ ((-2147483648) ≤ v ∧ v ≤ 2147483647)) := by
  refine qr_start (d := d + 1) qv_e113 (Nat.le_of_ble_eq_true rfl) ?_
  show qr_W (qe L xs vb) (d + 1) qx_e113 _ (0, [(0, .ref 64), (1, .int (qz x1))], [], _, 0, 0)
  refine qr_iconst 1 rfl rfl ?_
  refine qr_istore_n _ 2 rfl (by decide) rfl rfl ?_
  refine qr_iconst 3 rfl rfl ?_
  refine qr_istore_n _ 4 rfl (by decide) rfl rfl ?_
  have hL164 : ∀ (n : Nat) (ls : qm_L) (u159 u161 : Int), 12 - u161 < (n : Int) → qm_get ls 0 = some (.ref 64) → qm_get ls 1 = some (.int (qz x1)) → qm_get ls 2 = some (.int (qz u159)) → qm_get ls 3 = some (.int (qz u161)) → ((-2147483648) ≤ u159 ∧ u159 ≤ 2147483647) → (0 ≤ u161 ∧ u161 ≤ 12) → qr_W (qe L xs vb) (d + 1) qx_e113 (fun r w' => w' = qw σ α κ ρ ∧ ∃ v : Int, r = some (.int (qz v)) ∧ ((-2147483648) ≤ v ∧ v ≤ 2147483647)) (4, ls, [], qw σ α κ ρ, 0, 0) := by
    intro n
    induction n with
    | zero => intro ls u159 u161 hm g156 g157 g158 g160 hf162 hf163; exact False.elim (by omega)
    | succ n ih165 =>
      intro ls u159 u161 hm g156 g157 g158 g160 hf162 hf163
      refine qr_iload_n 5 rfl g160 rfl ?_
      refine qr_aload_n 6 rfl g156 rfl ?_
      refine qr_get 9 rfl rfl rfl (by decide) rfl ?_
      have hs166 : 0 ≤ σ 64 2 ∧ σ 64 2 ≤ 12 := hI.1 64 2
      refine qr_icmp_ge 51 12 rfl rfl rfl (by omega) (by omega) (fun h167 => ?_) (fun h167 => ?_)
      · skip
        refine qr_iload_n 52 rfl g158 rfl ?_
        refine qr_retI rfl rfl (by decide) (by decide) ?_
        exact ⟨rfl, u159, rfl, by omega⟩
      · skip
        refine qr_iload_n 13 rfl g157 rfl ?_
        refine qr_i2l 14 rfl (by omega) rfl ?_
        refine qr_iload_n 15 rfl g160 rfl ?_
        refine qr_callN 18 rfl rfl rfl (sf_50 (d := d + 0) hI (by omega) (by omega)) ?_
        rintro _ _ ⟨rfl, v168, rfl, hv168⟩
        show qr_W (qe L xs vb) (d + 1) qx_e113 _ (18, _, [.int (qz v168)], qw σ α κ ρ, 0, 0)
        refine qr_if_ne 24 21 rfl rfl rfl (by omega) (fun h169 => ?_) (fun h169 => ?_)
        · skip
          refine qr_aload_n 25 rfl g156 rfl ?_
          refine qr_get 28 rfl rfl rfl (by decide) rfl ?_
          refine qr_iload_n 29 rfl g160 rfl ?_
          refine qr_iaload 30 rfl rfl (by omega) (by decide) rfl ?_
          refine qr_topI (fun v170 hv170 => ?_)
          have hs171 : (-2147483648) ≤ v170 ∧ v170 ≤ 2147483647 := by rw [hv170]; exact hI.2.1 66 _ (show _ < 12 by omega)
          refine qr_iload_n 31 rfl g157 rfl ?_
          refine qr_iand 32 rfl rfl ?_
          refine qy_can (fun v172 hv172 => ?_)
          refine qr_if_eq 37 35 rfl rfl rfl (by omega) (fun h173 => ?_) (fun h173 => ?_)
          · skip
            refine qr_iload_n 38 rfl g158 rfl ?_
            refine qr_aload_n 39 rfl g156 rfl ?_
            refine qr_iload_n 40 rfl g160 rfl ?_
            refine qr_callN 43 rfl rfl rfl (sf_114_64 (d := d + 0) hI (by omega)) ?_
            rintro _ _ ⟨rfl, v174, rfl, hv174⟩
            show qr_W (qe L xs vb) (d + 1) qx_e113 _ (43, _, [.int (qz v174), .int (qz u159)], qw σ α κ ρ, 0, 0)
            refine qr_iadd 44 rfl rfl ?_
            refine qy_can (fun v175 hv175 => ?_)
            refine qr_istore_n _ 45 rfl (by decide) rfl rfl ?_
            refine qr_iinc _ 48 rfl (qm_gk g160 (by decide) (Or.inl (by decide))) (by decide) rfl rfl ?_
            refine qr_goto 4 rfl rfl ?_
            exact ih165 _ v175 (u161 + 1) (by omega) (qm_gk (qm_gk g156 (by decide) (Or.inl (by decide))) (by decide) (Or.inl (by decide))) (qm_gk (qm_gk g157 (by decide) (Or.inr rfl)) (by decide) (Or.inl (by decide))) (qm_gk (qm_ge _ _ _) (by decide) (Or.inr rfl)) (qm_ge _ _ _) (by omega) (by omega)
          · skip
            refine qr_iconst 36 rfl rfl ?_
            refine qr_retI rfl rfl (by decide) (by decide) ?_
            exact ⟨rfl, (-1), rfl, by omega⟩
        · skip
          refine qr_goto 45 rfl rfl ?_
          refine qr_iinc _ 48 rfl g160 (by decide) rfl rfl ?_
          refine qr_goto 4 rfl rfl ?_
          exact ih165 _ u159 (u161 + 1) (by omega) (qm_gk g156 (by decide) (Or.inl (by decide))) (qm_gk g157 (by decide) (Or.inl (by decide))) (qm_gk g158 (by decide) (Or.inr rfl)) (qm_ge _ _ _) (by omega) (by omega)
  exact hL164 ((12 - 0 + 1 : Int)).toNat _ 0 0 (by omega) rfl rfl rfl rfl (by omega) (by omega)

set_option maxHeartbeats 4000000 in
set_option maxRecDepth 20000 in
/-- OneRoof$Guests.asPeople -/
theorem sf_116_64 {L : Nat} {xs : Nat → Int} {vb : Bool} {d : Nat} {σ α : Nat → Nat → Int} {κ : Nat → Option Nat} {ρ : Nat} {x1 : Int} (hI : qI σ α κ ρ) (r1 : (-2147483648) ≤ x1 ∧ x1 ≤ 2147483647) : qm_T (qe L xs vb) (d + 2) 116 [.ref 64, .int (qz x1)] (qw σ α κ ρ) (fun r w' => w' = qw σ α κ ρ ∧ ∃ v : Int, r = some (.long (ql v)) ∧ ((-9223372036854775808) ≤ v ∧ v ≤ 9223372036854775807)) := by
  refine qr_start (d := d + 1) qv_e116 (Nat.le_of_ble_eq_true rfl) ?_
  show qr_W (qe L xs vb) (d + 1) qx_e116 _ (0, [(0, .ref 64), (1, .int (qz x1))], [], _, 0, 0)
  refine qr_lconst 1 rfl rfl ?_
  refine qy_vl 0 rfl ?_
  refine qr_lstore_n _ 2 rfl (by decide) rfl rfl ?_
  refine qr_iconst 3 rfl rfl ?_
  refine qr_istore _ 5 rfl (by decide) rfl rfl ?_
  have hL218 : ∀ (n : Nat) (ls : qm_L) (u213 u215 : Int), 12 - u215 < (n : Int) → qm_get ls 0 = some (.ref 64) → qm_get ls 1 = some (.int (qz x1)) → qm_get ls 2 = some (.long (ql u213)) → qm_get ls 4 = some (.int (qz u215)) → ((-9223372036854775808) ≤ u213 ∧ u213 ≤ 9223372036854775807) → (0 ≤ u215 ∧ u215 ≤ 12) → qr_W (qe L xs vb) (d + 1) qx_e116 (fun r w' => w' = qw σ α κ ρ ∧ ∃ v : Int, r = some (.long (ql v)) ∧ ((-9223372036854775808) ≤ v ∧ v ≤ 9223372036854775807)) (5, ls, [], qw σ α κ ρ, 0, 0) := by
    intro n
    induction n with
    | zero => intro ls u213 u215 hm g210 g211 g212 g214 hf216 hf217; exact False.elim (by omega)
    | succ n ih219 =>
      intro ls u213 u215 hm g210 g211 g212 g214 hf216 hf217
      refine qr_iload 7 rfl g214 rfl ?_
      refine qr_aload_n 8 rfl g210 rfl ?_
      refine qr_get 11 rfl rfl rfl (by decide) rfl ?_
      have hs220 : 0 ≤ σ 64 2 ∧ σ 64 2 ≤ 12 := hI.1 64 2
      refine qr_icmp_ge 42 14 rfl rfl rfl (by omega) (by omega) (fun h221 => ?_) (fun h221 => ?_)
      · skip
        refine qr_lload_n 43 rfl g212 rfl ?_
        refine qr_retL rfl rfl (by decide) (by decide) ?_
        exact ⟨rfl, u213, rfl, by omega⟩
      · skip
        refine qr_iload_n 15 rfl g211 rfl ?_
        refine qr_i2l 16 rfl (by omega) rfl ?_
        refine qr_iload 18 rfl g214 rfl ?_
        refine qr_callN 21 rfl rfl rfl (sf_50 (d := d + 0) hI (by omega) (by omega)) ?_
        rintro _ _ ⟨rfl, v222, rfl, hv222⟩
        show qr_W (qe L xs vb) (d + 1) qx_e116 _ (21, _, [.int (qz v222)], qw σ α κ ρ, 0, 0)
        have hJ233 : ∀ (ls : qm_L) (u230 : Int), qm_get ls 0 = some (.ref 64) → qm_get ls 1 = some (.int (qz x1)) → qm_get ls 2 = some (.long (ql u230)) → qm_get ls 4 = some (.int (qz u215)) → ((-9223372036854775808) ≤ u230 ∧ u230 ≤ 9223372036854775807) → qr_W (qe L xs vb) (d + 1) qx_e116 (fun r w' => w' = qw σ α κ ρ ∧ ∃ v : Int, r = some (.long (ql v)) ∧ ((-9223372036854775808) ≤ v ∧ v ≤ 9223372036854775807)) (36, ls, [], qw σ α κ ρ, 0, 0) := by
          intro ls u230 g227 g228 g229 g231 hf232
          refine qr_iinc _ 39 rfl g231 (by decide) rfl rfl ?_
          refine qr_goto 5 rfl rfl ?_
          exact ih219 _ u230 (u215 + 1) (by omega) (qm_gk g227 (by decide) (Or.inl (by decide))) (qm_gk g228 (by decide) (Or.inl (by decide))) (qm_gk g229 (by decide) (Or.inl (by decide))) (qm_ge _ _ _) (by omega) (by omega)
        refine qr_if_eq 36 24 rfl rfl rfl (by omega) (fun h234 => ?_) (fun h234 => ?_)
        · skip
          exact hJ233 _ u213 g210 g211 g212 g214 (by omega)
        · skip
          refine qr_lload_n 25 rfl g212 rfl ?_
          refine qr_lconst 26 rfl rfl ?_
          refine qy_vl 1 rfl ?_
          refine qr_aload_n 27 rfl g210 rfl ?_
          refine qr_get 30 rfl rfl rfl (by decide) rfl ?_
          refine qr_iload 32 rfl g214 rfl ?_
          refine qr_iaload 33 rfl rfl (by omega) (by decide) rfl ?_
          refine qr_topI (fun v235 hv235 => ?_)
          have hs236 : 0 ≤ v235 ∧ v235 ≤ 31 := by rw [hv235]; exact hI.2.1 65 _ (show _ < 12 by omega)
          refine qr_lshl 34 rfl rfl ?_
          refine qy_canl (fun v237 hv237 => ?_)
          refine qr_lor 35 rfl rfl ?_
          refine qy_canl (fun v238 hv238 => ?_)
          refine qr_lstore_n _ 36 rfl (by decide) rfl rfl ?_
          exact hJ233 _ v238 (qm_gk2 g210 (by decide) (by decide) (Or.inl (by decide))) (qm_gk2 g211 (by decide) (by decide) (Or.inr rfl)) (qm_ge2 _ _ _) (qm_gk2 g214 (by decide) (by decide) (Or.inl (by decide))) (by omega)
  exact hL218 ((12 - 0 + 1 : Int)).toNat _ 0 0 (by omega) rfl rfl rfl rfl (by omega) (by omega)

set_option maxHeartbeats 4000000 in
set_option maxRecDepth 20000 in
/-- OneRoof$Guests.heaviest -/
theorem sf_112_64 {L : Nat} {xs : Nat → Int} {vb : Bool} {d : Nat} {σ α : Nat → Nat → Int} {κ : Nat → Option Nat} {ρ : Nat} {x1 : Int} (hI : qI σ α κ ρ) (r1 : (-9223372036854775808) ≤ x1 ∧ x1 ≤ 9223372036854775807) : qm_T (qe L xs vb) (d + 3) 112 [.ref 64, .long (ql x1)] (qw σ α κ ρ) (fun r w' => w' = qw σ α κ ρ ∧ ∃ v : Int, r = some (.long (ql v)) ∧ ((-9223372036854775808) ≤ v ∧ v ≤ 9223372036854775807)) := by
  refine qr_start (d := d + 2) qv_e112 (Nat.le_of_ble_eq_true rfl) ?_
  show qr_W (qe L xs vb) (d + 2) qx_e112 _ (0, [(0, .ref 64), (1, .long (ql x1))], [], _, 0, 0)
  refine qr_iconst 1 rfl rfl ?_
  refine qr_istore_n _ 2 rfl (by decide) rfl rfl ?_
  refine qr_iconst 3 rfl rfl ?_
  refine qr_istore _ 5 rfl (by decide) rfl rfl ?_
  have hL11566 : ∀ (n : Nat) (ls : qm_L) (u11561 u11563 : Int), 12 - u11563 < (n : Int) → qm_get ls 0 = some (.ref 64) → qm_get ls 1 = some (.long (ql x1)) → qm_get ls 3 = some (.int (qz u11561)) → qm_get ls 4 = some (.int (qz u11563)) → ((-2147483648) ≤ u11561 ∧ u11561 ≤ 2147483647) → (0 ≤ u11563 ∧ u11563 ≤ 12) → qr_W (qe L xs vb) (d + 2) qx_e112 (fun r w' => w' = qw σ α κ ρ ∧ ∃ v : Int, r = some (.long (ql v)) ∧ ((-9223372036854775808) ≤ v ∧ v ≤ 9223372036854775807)) (5, ls, [], qw σ α κ ρ, 0, 0) := by
    intro n
    induction n with
    | zero => intro ls u11561 u11563 hm g11558 g11559 g11560 g11562 hf11564 hf11565; exact False.elim (by omega)
    | succ n ih11567 =>
      intro ls u11561 u11563 hm g11558 g11559 g11560 g11562 hf11564 hf11565
      refine qr_iload 7 rfl g11562 rfl ?_
      refine qr_aload_n 8 rfl g11558 rfl ?_
      refine qr_get 11 rfl rfl rfl (by decide) rfl ?_
      have hs11568 : 0 ≤ σ 64 2 ∧ σ 64 2 ≤ 12 := hI.1 64 2
      refine qr_icmp_ge 41 14 rfl rfl rfl (by omega) (by omega) (fun h11581 => ?_) (fun h11581 => ?_)
      · skip
        refine qr_iconst 42 rfl rfl ?_
        refine qr_istore _ 44 rfl (by decide) rfl rfl ?_
        refine qr_iconst 45 rfl rfl ?_
        refine qr_istore _ 47 rfl (by decide) rfl rfl ?_
        refine qr_iconst 48 rfl rfl ?_
        refine qr_istore _ 50 rfl (by decide) rfl rfl ?_
        have hL13138 : ∀ (n : Nat) (ls : qm_L) (u13130 u13132 u13134 : Int), 4096 - u13134 < (n : Int) → qm_get ls 0 = some (.ref 64) → qm_get ls 3 = some (.int (qz u11561)) → qm_get ls 4 = some (.int (qz u13130)) → qm_get ls 5 = some (.int (qz u13132)) → qm_get ls 6 = some (.int (qz u13134)) → ((-1) ≤ u13130 ∧ u13130 ≤ 4095) → ((-1) ≤ u13132 ∧ u13132 ≤ 2147483647) → (0 ≤ u13134 ∧ u13134 ≤ 4096) → qr_W (qe L xs vb) (d + 2) qx_e112 (fun r w' => w' = qw σ α κ ρ ∧ ∃ v : Int, r = some (.long (ql v)) ∧ ((-9223372036854775808) ≤ v ∧ v ≤ 9223372036854775807)) (50, ls, [], qw σ α κ ρ, 0, 0) := by
          intro n
          induction n with
          | zero => intro ls u13130 u13132 u13134 hm g13127 g13128 g13129 g13131 g13133 hf13135 hf13136 hf13137; exact False.elim (by omega)
          | succ n ih13139 =>
            intro ls u13130 u13132 u13134 hm g13127 g13128 g13129 g13131 g13133 hf13135 hf13136 hf13137
            refine qr_iload 52 rfl g13133 rfl ?_
            refine qr_iconst 53 rfl rfl ?_
            refine qr_aload_n 54 rfl g13127 rfl ?_
            refine qr_get 57 rfl rfl rfl (by decide) rfl ?_
            refine qr_ishl 58 rfl rfl ?_
            refine qy_shl1 (N := 12) (by omega) (fun v13140 hv13140 => ?_)
            refine qr_icmp_ge 132 61 rfl rfl rfl (by omega) (by omega) (fun h13155 => ?_) (fun h13155 => ?_)
            · skip
              refine qr_iload 134 rfl g13129 rfl ?_
              refine qr_if_ge 143 137 rfl rfl rfl (by omega) (fun h13156 => ?_) (fun h13156 => ?_)
              · skip
                refine qr_aload_n 144 rfl g13127 rfl ?_
                refine qr_iload 146 rfl g13129 rfl ?_
                refine qr_callN 149 rfl rfl rfl (sf_116_64 (d := d + 0) hI (by omega)) ?_
                rintro _ _ ⟨rfl, v13157, rfl, hv13157⟩
                show qr_W (qe L xs vb) (d + 2) qx_e112 _ (149, _, [.long (ql v13157)], qw σ α κ ρ, 0, 0)
                refine qr_retL rfl rfl (by decide) (by decide) ?_
                exact ⟨rfl, v13157, rfl, by omega⟩
              · skip
                refine qr_ldc2 (-2) 140 rfl (by decide) rfl ?_
                refine qr_goto 149 rfl rfl ?_
                refine qr_retL rfl rfl (by decide) (by decide) ?_
                exact ⟨rfl, (-2), rfl, by omega⟩
            · skip
              refine qr_iload 63 rfl g13133 rfl ?_
              refine qr_iload_n 64 rfl g13128 rfl ?_
              refine qr_iand 65 rfl rfl ?_
              refine qy_andl (by omega) (fun v13158 hv13158 => ?_)
              refine qr_iload_n 66 rfl g13128 rfl ?_
              have hJ13171 : ∀ (ls : qm_L) (u13165 u13167 : Int), qm_get ls 0 = some (.ref 64) → qm_get ls 3 = some (.int (qz u11561)) → qm_get ls 4 = some (.int (qz u13165)) → qm_get ls 5 = some (.int (qz u13167)) → qm_get ls 6 = some (.int (qz u13134)) → ((-1) ≤ u13165 ∧ u13165 ≤ 4095) → ((-1) ≤ u13167 ∧ u13167 ≤ 2147483647) → qr_W (qe L xs vb) (d + 2) qx_e112 (fun r w' => w' = qw σ α κ ρ ∧ ∃ v : Int, r = some (.long (ql v)) ∧ ((-9223372036854775808) ≤ v ∧ v ≤ 9223372036854775807)) (126, ls, [], qw σ α κ ρ, 0, 0) := by
                intro ls u13165 u13167 g13162 g13163 g13164 g13166 g13168 hf13169 hf13170
                refine qr_iinc _ 129 rfl g13168 (by decide) rfl rfl ?_
                refine qr_goto 50 rfl rfl ?_
                exact ih13139 _ u13165 u13167 (u13134 + 1) (by omega) (qm_gk g13162 (by decide) (Or.inl (by decide))) (qm_gk g13163 (by decide) (Or.inl (by decide))) (qm_gk g13164 (by decide) (Or.inl (by decide))) (qm_gk g13166 (by decide) (Or.inr rfl)) (qm_ge _ _ _) (by omega) (by omega) (by omega)
              refine qr_icmp_eq 72 69 rfl rfl rfl (by omega) (by omega) (fun h13172 => ?_) (fun h13172 => ?_)
              · skip
                refine qr_aload_n 73 rfl g13127 rfl ?_
                refine qr_iload 75 rfl g13133 rfl ?_
                refine qr_callN 78 rfl rfl rfl (sf_113_64 (d := d + 0) hI (by omega)) ?_
                rintro _ _ ⟨rfl, v13173, rfl, hv13173⟩
                show qr_W (qe L xs vb) (d + 2) qx_e112 _ (78, _, [.int (qz v13173)], qw σ α κ ρ, 0, 0)
                refine qr_istore _ 80 rfl (by decide) rfl rfl ?_
                refine qr_iload 82 rfl (qm_ge _ _ _) rfl ?_
                refine qr_if_lt 126 85 rfl rfl rfl (by omega) (fun h13174 => ?_) (fun h13174 => ?_)
                · skip
                  exact hJ13171 _ u13130 u13132 (qm_gk g13127 (by decide) (Or.inl (by decide))) (qm_gk g13128 (by decide) (Or.inl (by decide))) (qm_gk g13129 (by decide) (Or.inl (by decide))) (qm_gk g13131 (by decide) (Or.inl (by decide))) (qm_gk g13133 (by decide) (Or.inr rfl)) (by omega) (by omega)
                · skip
                  refine qr_iload 87 rfl (qm_ge _ _ _) rfl ?_
                  refine qr_iload 89 rfl (qm_gk g13131 (by decide) (Or.inl (by decide))) rfl ?_
                  refine qr_icmp_ge 95 92 rfl rfl rfl (by omega) (by omega) (fun h13175 => ?_) (fun h13175 => ?_)
                  · skip
                    refine qr_iload 97 rfl (qm_ge _ _ _) rfl ?_
                    refine qr_iload 99 rfl (qm_gk g13131 (by decide) (Or.inl (by decide))) rfl ?_
                    refine qr_icmp_ne 118 102 rfl rfl rfl (by omega) (by omega) (fun h13176 => ?_) (fun h13176 => ?_)
                    · skip
                      refine qr_iload 120 rfl (qm_gk g13133 (by decide) (Or.inr rfl)) rfl ?_
                      refine qr_istore _ 122 rfl (by decide) rfl rfl ?_
                      refine qr_iload 124 rfl (qm_gk (qm_ge _ _ _) (by decide) (Or.inl (by decide))) rfl ?_
                      refine qr_istore _ 126 rfl (by decide) rfl rfl ?_
                      exact hJ13171 _ u13134 v13173 (qm_gk (qm_gk (qm_gk g13127 (by decide) (Or.inl (by decide))) (by decide) (Or.inl (by decide))) (by decide) (Or.inl (by decide))) (qm_gk (qm_gk (qm_gk g13128 (by decide) (Or.inl (by decide))) (by decide) (Or.inr rfl)) (by decide) (Or.inl (by decide))) (qm_gk (qm_ge _ _ _) (by decide) (Or.inr rfl)) (qm_ge _ _ _) (qm_gk (qm_gk (qm_gk g13133 (by decide) (Or.inr rfl)) (by decide) (Or.inl (by decide))) (by decide) (Or.inl (by decide))) (by omega) (by omega)
                    · skip
                      refine qr_iload 104 rfl (qm_gk g13133 (by decide) (Or.inr rfl)) rfl ?_
                      refine qr_callN 107 rfl rfl rfl (sf_115 (d := d + 1) hI (by omega)) ?_
                      rintro _ _ ⟨rfl, v13177, rfl, hv13177⟩
                      show qr_W (qe L xs vb) (d + 2) qx_e112 _ (107, _, [.int (qz v13177)], qw σ α κ ρ, 0, 0)
                      refine qr_iload 109 rfl (qm_gk g13129 (by decide) (Or.inl (by decide))) rfl ?_
                      refine qr_callN 112 rfl rfl rfl (sf_115 (d := d + 1) hI (by omega)) ?_
                      rintro _ _ ⟨rfl, v13178, rfl, hv13178⟩
                      show qr_W (qe L xs vb) (d + 2) qx_e112 _ (112, _, [.int (qz v13178), .int (qz v13177)], qw σ α κ ρ, 0, 0)
                      refine qr_icmp_gt 118 115 rfl rfl rfl (by omega) (by omega) (fun h13179 => ?_) (fun h13179 => ?_)
                      · skip
                        refine qr_iload 120 rfl (qm_gk g13133 (by decide) (Or.inr rfl)) rfl ?_
                        refine qr_istore _ 122 rfl (by decide) rfl rfl ?_
                        refine qr_iload 124 rfl (qm_gk (qm_ge _ _ _) (by decide) (Or.inl (by decide))) rfl ?_
                        refine qr_istore _ 126 rfl (by decide) rfl rfl ?_
                        exact hJ13171 _ u13134 v13173 (qm_gk (qm_gk (qm_gk g13127 (by decide) (Or.inl (by decide))) (by decide) (Or.inl (by decide))) (by decide) (Or.inl (by decide))) (qm_gk (qm_gk (qm_gk g13128 (by decide) (Or.inl (by decide))) (by decide) (Or.inr rfl)) (by decide) (Or.inl (by decide))) (qm_gk (qm_ge _ _ _) (by decide) (Or.inr rfl)) (qm_ge _ _ _) (qm_gk (qm_gk (qm_gk g13133 (by decide) (Or.inr rfl)) (by decide) (Or.inl (by decide))) (by decide) (Or.inl (by decide))) (by omega) (by omega)
                      · skip
                        refine qr_goto 126 rfl rfl ?_
                        exact hJ13171 _ u13130 u13132 (qm_gk g13127 (by decide) (Or.inl (by decide))) (qm_gk g13128 (by decide) (Or.inl (by decide))) (qm_gk g13129 (by decide) (Or.inl (by decide))) (qm_gk g13131 (by decide) (Or.inl (by decide))) (qm_gk g13133 (by decide) (Or.inr rfl)) (by omega) (by omega)
                  · skip
                    refine qr_goto 126 rfl rfl ?_
                    exact hJ13171 _ u13130 u13132 (qm_gk g13127 (by decide) (Or.inl (by decide))) (qm_gk g13128 (by decide) (Or.inl (by decide))) (qm_gk g13129 (by decide) (Or.inl (by decide))) (qm_gk g13131 (by decide) (Or.inl (by decide))) (qm_gk g13133 (by decide) (Or.inr rfl)) (by omega) (by omega)
              · skip
                refine qr_goto 126 rfl rfl ?_
                exact hJ13171 _ u13130 u13132 g13127 g13128 g13129 g13131 g13133 (by omega) (by omega)
        exact hL13138 ((4096 - 0 + 1 : Int)).toNat _ (-1) (-1) 0 (by omega) (qm_gk (qm_gk (qm_gk g11558 (by decide) (Or.inl (by decide))) (by decide) (Or.inl (by decide))) (by decide) (Or.inl (by decide))) (qm_gk (qm_gk (qm_gk g11560 (by decide) (Or.inr rfl)) (by decide) (Or.inl (by decide))) (by decide) (Or.inl (by decide))) (qm_gk (qm_gk (qm_ge _ _ _) (by decide) (Or.inr rfl)) (by decide) (Or.inl (by decide))) (qm_gk (qm_ge _ _ _) (by decide) (Or.inr rfl)) (qm_ge _ _ _) (by omega) (by omega) (by omega)
      · skip
        refine qr_lload_n 15 rfl g11559 rfl ?_
        refine qr_aload_n 16 rfl g11558 rfl ?_
        refine qr_get 19 rfl rfl rfl (by decide) rfl ?_
        refine qr_iload 21 rfl g11562 rfl ?_
        refine qr_iaload 22 rfl rfl (by omega) (by decide) rfl ?_
        refine qr_topI (fun v13180 hv13180 => ?_)
        have hs13181 : 0 ≤ v13180 ∧ v13180 ≤ 31 := by rw [hv13180]; exact hI.2.1 65 _ (show _ < 12 by omega)
        refine qr_callN 25 rfl rfl rfl (sf_50 (d := d + 1) hI (by omega) (by omega)) ?_
        rintro _ _ ⟨rfl, v13182, rfl, hv13182⟩
        show qr_W (qe L xs vb) (d + 2) qx_e112 _ (25, _, [.int (qz v13182)], qw σ α κ ρ, 0, 0)
        have hJ13191 : ∀ (ls : qm_L) (u13188 : Int), qm_get ls 0 = some (.ref 64) → qm_get ls 1 = some (.long (ql x1)) → qm_get ls 3 = some (.int (qz u13188)) → qm_get ls 4 = some (.int (qz u11563)) → ((-2147483648) ≤ u13188 ∧ u13188 ≤ 2147483647) → qr_W (qe L xs vb) (d + 2) qx_e112 (fun r w' => w' = qw σ α κ ρ ∧ ∃ v : Int, r = some (.long (ql v)) ∧ ((-9223372036854775808) ≤ v ∧ v ≤ 9223372036854775807)) (35, ls, [], qw σ α κ ρ, 0, 0) := by
          intro ls u13188 g13185 g13186 g13187 g13189 hf13190
          refine qr_iinc _ 38 rfl g13189 (by decide) rfl rfl ?_
          refine qr_goto 5 rfl rfl ?_
          exact ih11567 _ u13188 (u11563 + 1) (by omega) (qm_gk g13185 (by decide) (Or.inl (by decide))) (qm_gk g13186 (by decide) (Or.inl (by decide))) (qm_gk g13187 (by decide) (Or.inr rfl)) (qm_ge _ _ _) (by omega) (by omega)
        refine qr_if_eq 35 28 rfl rfl rfl (by omega) (fun h13192 => ?_) (fun h13192 => ?_)
        · skip
          exact hJ13191 _ u11561 g11558 g11559 g11560 g11562 (by omega)
        · skip
          refine qr_iload_n 29 rfl g11560 rfl ?_
          refine qr_iconst 30 rfl rfl ?_
          refine qr_iload 32 rfl g11562 rfl ?_
          refine qr_ishl 33 rfl rfl ?_
          refine qy_shl1 (N := 11) (by omega) (fun v13193 hv13193 => ?_)
          refine qr_ior 34 rfl rfl ?_
          refine qy_can (fun v13194 hv13194 => ?_)
          refine qr_istore_n _ 35 rfl (by decide) rfl rfl ?_
          exact hJ13191 _ v13194 (qm_gk g11558 (by decide) (Or.inl (by decide))) (qm_gk g11559 (by decide) (Or.inl (by decide))) (qm_ge _ _ _) (qm_gk g11562 (by decide) (Or.inl (by decide))) (by omega)
  exact hL11566 ((12 - 0 + 1 : Int)).toNat _ 0 0 (by omega) rfl rfl rfl rfl (by omega) (by omega)

set_option maxHeartbeats 4000000 in
set_option maxRecDepth 20000 in
/-- OneRoof$Guests.fillHeaviestWithin -/
theorem sf_119_64 {L : Nat} {xs : Nat → Int} {vb : Bool} {d : Nat} {σ α : Nat → Nat → Int} {κ : Nat → Option Nat} {ρ : Nat}  (hI : qI σ α κ ρ)  : qm_T (qe L xs vb) (d + 2) 119 [.ref 64] (qw σ α κ ρ) (fun r w' => ∃ α', w' = qw σ α' κ ρ ∧ qI σ α' κ ρ ∧ qFr [] [67] σ α σ α' ∧ r = none) := by
  refine qr_start (d := d + 1) qv_e119 (Nat.le_of_ble_eq_true rfl) ?_
  show qr_W (qe L xs vb) (d + 1) qx_e119 _ (0, [(0, .ref 64)], [], _, 0, 0)
  have hF0 := qFr_rf [] [67] σ α
  refine qr_aload_n 1 rfl rfl rfl ?_
  refine qr_get 4 rfl rfl rfl (by decide) rfl ?_
  refine qr_iconst 5 rfl rfl ?_
  refine qr_iconst 6 rfl rfl ?_
  refine qr_iastore 7 rfl (by decide) rfl (by omega) (by decide) rfl ?_
  refine qy_wA (qw_r α 67 (qzu (α 67) (0 : Int).toNat 0)) rfl (fun α1 e2 => ?_)
  have hI3 : qI σ α1 κ ρ := by rw [e2]; exact qI_r hI 67 _ rfl (show (-2147483648) ≤ 0 ∧ 0 ≤ 2147483647 by omega)
  have hF4 : qFr [] [67] σ α σ α1 := by rw [e2]; exact qFr_r hF0 67 _ (by decide)
  refine qr_iconst 8 rfl rfl ?_
  refine qr_istore_n _ 9 rfl (by decide) rfl rfl ?_
  have hL1117 : ∀ (n : Nat) (ls : qm_L) (u1111 : Int) (α1113 : Nat → Nat → Int), 4096 - u1111 < (n : Int) → qm_get ls 0 = some (.ref 64) → qm_get ls 1 = some (.int (qz u1111)) → (1 ≤ u1111 ∧ u1111 ≤ 4096) → qI σ α1113 κ ρ → qFr [] [67] σ α σ α1113 → qr_W (qe L xs vb) (d + 1) qx_e119 (fun r w' => ∃ α', w' = qw σ α' κ ρ ∧ qI σ α' κ ρ ∧ qFr [] [67] σ α σ α' ∧ r = none) (9, ls, [], qw σ α1113 κ ρ, 0, 0) := by
    intro n
    induction n with
    | zero => intro ls u1111 α1113 hm g1109 g1110 hf1116 hI1114 hF1115; exact False.elim (by omega)
    | succ n ih1118 =>
      intro ls u1111 α1113 hm g1109 g1110 hf1116 hI1114 hF1115
      refine qr_iload_n 10 rfl g1110 rfl ?_
      refine qr_iconst 11 rfl rfl ?_
      refine qr_aload_n 12 rfl g1109 rfl ?_
      refine qr_get 15 rfl rfl rfl (by decide) rfl ?_
      have hs1119 : 0 ≤ σ 64 2 ∧ σ 64 2 ≤ 12 := hI1114.1 64 2
      refine qr_ishl 16 rfl rfl ?_
      refine qy_shl1 (N := 12) (by omega) (fun v1120 hv1120 => ?_)
      refine qr_icmp_ge 72 19 rfl rfl rfl (by omega) (by omega) (fun h1121 => ?_) (fun h1121 => ?_)
      · skip
        refine qr_retV rfl rfl (by decide) (by decide) ?_
        exact ⟨_, rfl, hI1114, hF1115, rfl⟩
      · skip
        refine qr_iload_n 20 rfl g1110 rfl ?_
        refine qr_callN 23 rfl rfl rfl (sf_83s (d := d + 0) hI1114 (by omega)) ?_
        rintro _ _ ⟨rfl, v1122, rfl, hv1122⟩
        show qr_W (qe L xs vb) (d + 1) qx_e119 _ (23, _, [.int (qz v1122)], qw σ α1113 κ ρ, 0, 0)
        refine qr_istore_n _ 24 rfl (by decide) rfl rfl ?_
        refine qr_iload_n 25 rfl (qm_gk g1110 (by decide) (Or.inr rfl)) rfl ?_
        refine qr_iload_n 26 rfl (qm_gk g1110 (by decide) (Or.inr rfl)) rfl ?_
        refine qr_iconst 27 rfl rfl ?_
        refine qr_isub 28 rfl rfl ?_
        refine qr_iand 29 rfl rfl ?_
        refine qy_andr (by omega) (fun v1123 hv1123 => ?_)
        refine qr_istore_n _ 30 rfl (by decide) rfl rfl ?_
        refine qr_aload_n 31 rfl (qm_gk (qm_gk g1109 (by decide) (Or.inl (by decide))) (by decide) (Or.inl (by decide))) rfl ?_
        refine qr_get 34 rfl rfl rfl (by decide) rfl ?_
        refine qr_iload_n 35 rfl (qm_gk (qm_gk g1110 (by decide) (Or.inr rfl)) (by decide) (Or.inl (by decide))) rfl ?_
        refine qr_aload_n 36 rfl (qm_gk (qm_gk g1109 (by decide) (Or.inl (by decide))) (by decide) (Or.inl (by decide))) rfl ?_
        refine qr_get 39 rfl rfl rfl (by decide) rfl ?_
        refine qr_iload_n 40 rfl (qm_ge _ _ _) rfl ?_
        refine qr_iaload 41 rfl rfl (by omega) (by decide) rfl ?_
        refine qr_topI (fun v1124 hv1124 => ?_)
        have hs1125 : (-2147483648) ≤ v1124 ∧ v1124 ≤ 2147483647 := by rw [hv1124]; exact hI1114.2.1 67 _ (show _ < 4096 by omega)
        refine qr_aload_n 42 rfl (qm_gk (qm_gk g1109 (by decide) (Or.inl (by decide))) (by decide) (Or.inl (by decide))) rfl ?_
        refine qr_iload_n 43 rfl (qm_gk (qm_ge _ _ _) (by decide) (Or.inr rfl)) rfl ?_
        refine qr_callN 46 rfl rfl rfl (sf_114_64 (d := d + 0) hI1114 (by omega)) ?_
        rintro _ _ ⟨rfl, v1126, rfl, hv1126⟩
        show qr_W (qe L xs vb) (d + 1) qx_e119 _ (46, _, [.int (qz v1126), .int (qz v1124), .int (qz u1111), .ref 67], qw σ α1113 κ ρ, 0, 0)
        refine qr_aload_n 47 rfl (qm_gk (qm_gk g1109 (by decide) (Or.inl (by decide))) (by decide) (Or.inl (by decide))) rfl ?_
        refine qr_get 50 rfl rfl rfl (by decide) rfl ?_
        refine qr_iload_n 51 rfl (qm_ge _ _ _) rfl ?_
        refine qr_aload_n 52 rfl (qm_gk (qm_gk g1109 (by decide) (Or.inl (by decide))) (by decide) (Or.inl (by decide))) rfl ?_
        refine qr_get 55 rfl rfl rfl (by decide) rfl ?_
        refine qr_iload_n 56 rfl (qm_gk (qm_ge _ _ _) (by decide) (Or.inr rfl)) rfl ?_
        refine qr_iaload 57 rfl rfl (by omega) (by decide) rfl ?_
        refine qr_topI (fun v1127 hv1127 => ?_)
        have hs1128 : (-2147483648) ≤ v1127 ∧ v1127 ≤ 2147483647 := by rw [hv1127]; exact hI1114.2.1 66 _ (show _ < 12 by omega)
        refine qr_iconst 58 rfl rfl ?_
        refine qr_ixor 59 rfl rfl ?_
        refine qy_can (fun v1129 hv1129 => ?_)
        refine qr_iand 60 rfl rfl ?_
        refine qy_andl (by omega) (fun v1130 hv1130 => ?_)
        refine qr_iaload 61 rfl rfl (by omega) (by decide) rfl ?_
        refine qr_topI (fun v1131 hv1131 => ?_)
        have hs1132 : (-2147483648) ≤ v1131 ∧ v1131 ≤ 2147483647 := by rw [hv1131]; exact hI1114.2.1 67 _ (show _ < 4096 by omega)
        refine qr_iadd 62 rfl rfl ?_
        refine qy_can (fun v1133 hv1133 => ?_)
        refine qr_callN 65 rfl rfl rfl (sf_30 (d := d + 0) hI1114 (by omega) (by omega)) ?_
        rintro _ _ ⟨rfl, v1134, rfl, hv1134, hp1135⟩
        show qr_W (qe L xs vb) (d + 1) qx_e119 _ (65, _, [.int (qz v1134), .int (qz u1111), .ref 67], qw σ α1113 κ ρ, 0, 0)
        refine qr_iastore 66 rfl (by decide) rfl (by omega) (by decide) rfl ?_
        refine qy_wA (qw_r α1113 67 (qzu (α1113 67) (u1111 : Int).toNat v1134)) rfl (fun α1136 e1137 => ?_)
        have hI1138 : qI σ α1136 κ ρ := by rw [e1137]; exact qI_r hI1114 67 _ rfl (show (-2147483648) ≤ v1134 ∧ v1134 ≤ 2147483647 by omega)
        have hF1139 : qFr [] [67] σ α σ α1136 := by rw [e1137]; exact qFr_r hF1115 67 _ (by decide)
        refine qr_iinc _ 69 rfl (qm_gk (qm_gk g1110 (by decide) (Or.inr rfl)) (by decide) (Or.inl (by decide))) (by decide) rfl rfl ?_
        refine qr_goto 9 rfl rfl ?_
        exact ih1118 _ (u1111 + 1) α1136 (by omega) (qm_gk (qm_gk (qm_gk g1109 (by decide) (Or.inl (by decide))) (by decide) (Or.inl (by decide))) (by decide) (Or.inr rfl)) (qm_ge _ _ _) (by omega) hI1138 hF1139
  exact hL1117 ((4096 - 1 + 1 : Int)).toNat _ 1 α1 (by omega) rfl rfl (by omega) hI3 hF4

set_option maxHeartbeats 4000000 in
set_option maxRecDepth 20000 in
/-- OneRoof$Guests.twoRooms -/
theorem sf_118_64 {L : Nat} {xs : Nat → Int} {vb : Bool} {d : Nat} {σ α : Nat → Nat → Int} {κ : Nat → Option Nat} {ρ : Nat} {x1 : Int} (hI : qI σ α κ ρ) (r1 : (-2147483648) ≤ x1 ∧ x1 ≤ 2147483647) : qm_T (qe L xs vb) (d + 3) 118 [.ref 64, .int (qz x1)] (qw σ α κ ρ) (fun r w' => ∃ α', w' = qw σ α' κ ρ ∧ qI σ α' κ ρ ∧ qFr [] [67] σ α σ α' ∧ ∃ v : Int, r = some (.long (ql v)) ∧ ((-9223372036854775808) ≤ v ∧ v ≤ 9223372036854775807)) := by
  refine qr_start (d := d + 2) qv_e118 (Nat.le_of_ble_eq_true rfl) ?_
  show qr_W (qe L xs vb) (d + 2) qx_e118 _ (0, [(0, .ref 64), (1, .int (qz x1))], [], _, 0, 0)
  have hF0 := qFr_rf [] [67] σ α
  refine qr_aload_n 1 rfl rfl rfl ?_
  refine qr_callN 4 rfl rfl rfl (sf_119_64 (d := d + 0) hI ) ?_
  rintro _ _ ⟨α1, rfl, hI2, hG3, rfl⟩
  have hF4 : qFr [] [67] σ α σ α1 := qFr_t hF0 hG3 (by decide) (by decide)
  show qr_W (qe L xs vb) (d + 2) qx_e118 _ (4, _, [], qw σ α1 κ ρ, 0, 0)
  refine qr_iconst 5 rfl rfl ?_
  refine qr_aload_n 6 rfl rfl rfl ?_
  refine qr_get 9 rfl rfl rfl (by decide) rfl ?_
  have hs5 : 0 ≤ σ 64 2 ∧ σ 64 2 ≤ 12 := hI2.1 64 2
  refine qr_ishl 10 rfl rfl ?_
  refine qy_shl1 (N := 12) (by omega) (fun v6 hv6 => ?_)
  refine qr_iconst 11 rfl rfl ?_
  refine qr_isub 12 rfl rfl ?_
  refine qr_istore_n _ 13 rfl (by decide) rfl rfl ?_
  refine qr_iconst 14 rfl rfl ?_
  refine qr_istore_n _ 15 rfl (by decide) rfl rfl ?_
  refine qr_iconst 16 rfl rfl ?_
  refine qr_istore _ 18 rfl (by decide) rfl rfl ?_
  refine qr_iconst 19 rfl rfl ?_
  refine qr_istore _ 21 rfl (by decide) rfl rfl ?_
  refine qr_iconst 22 rfl rfl ?_
  refine qr_istore _ 24 rfl (by decide) rfl rfl ?_
  have hL2162 : ∀ (n : Nat) (ls : qm_L) (u2151 u2153 u2155 u2157 : Int), 4096 - u2157 < (n : Int) → qm_get ls 0 = some (.ref 64) → qm_get ls 1 = some (.int (qz x1)) → qm_get ls 2 = some (.int (qz (v6 - 1))) → qm_get ls 3 = some (.int (qz u2151)) → qm_get ls 4 = some (.int (qz u2153)) → qm_get ls 5 = some (.int (qz u2155)) → qm_get ls 6 = some (.int (qz u2157)) → (0 ≤ u2151 ∧ u2151 ≤ 4095) → ((-1) ≤ u2153 ∧ u2153 ≤ 2147483647) → ((-1) ≤ u2155 ∧ u2155 ≤ 2147483647) → (0 ≤ u2157 ∧ u2157 ≤ 4096) → qr_W (qe L xs vb) (d + 2) qx_e118 (fun r w' => ∃ α', w' = qw σ α' κ ρ ∧ qI σ α' κ ρ ∧ qFr [] [67] σ α σ α' ∧ ∃ v : Int, r = some (.long (ql v)) ∧ ((-9223372036854775808) ≤ v ∧ v ≤ 9223372036854775807)) (24, ls, [], qw σ α1 κ ρ, 0, 0) := by
    intro n
    induction n with
    | zero => intro ls u2151 u2153 u2155 u2157 hm g2147 g2148 g2149 g2150 g2152 g2154 g2156 hf2158 hf2159 hf2160 hf2161; exact False.elim (by omega)
    | succ n ih2163 =>
      intro ls u2151 u2153 u2155 u2157 hm g2147 g2148 g2149 g2150 g2152 g2154 g2156 hf2158 hf2159 hf2160 hf2161
      refine qr_iload 26 rfl g2156 rfl ?_
      refine qr_iload_n 27 rfl g2149 rfl ?_
      refine qr_icmp_gt 103 30 rfl rfl rfl (by omega) (by omega) (fun h2185 => ?_) (fun h2185 => ?_)
      · skip
        refine qr_iload_n 104 rfl g2148 rfl ?_
        refine qr_if_ne 113 107 rfl rfl rfl (by omega) (fun h2186 => ?_) (fun h2186 => ?_)
        · skip
          refine qr_aload_n 114 rfl g2147 rfl ?_
          refine qr_iload_n 115 rfl g2150 rfl ?_
          refine qr_callN 118 rfl rfl rfl (sf_116_64 (d := d + 0) hI2 (by omega)) ?_
          rintro _ _ ⟨rfl, v2187, rfl, hv2187⟩
          show qr_W (qe L xs vb) (d + 2) qx_e118 _ (118, _, [.long (ql v2187)], qw σ α1 κ ρ, 0, 0)
          refine qr_retL rfl rfl (by decide) (by decide) ?_
          exact ⟨_, rfl, hI2, hF4, v2187, rfl, by omega⟩
        · skip
          refine qr_iload 109 rfl g2152 rfl ?_
          refine qr_i2l 110 rfl (by omega) rfl ?_
          refine qr_goto 118 rfl rfl ?_
          refine qr_retL rfl rfl (by decide) (by decide) ?_
          exact ⟨_, rfl, hI2, hF4, u2153, rfl, by omega⟩
      · skip
        refine qr_aload_n 31 rfl g2147 rfl ?_
        refine qr_iload 33 rfl g2156 rfl ?_
        refine qr_callN 36 rfl rfl rfl (sf_113_64 (d := d + 0) hI2 (by omega)) ?_
        rintro _ _ ⟨rfl, v2188, rfl, hv2188⟩
        show qr_W (qe L xs vb) (d + 2) qx_e118 _ (36, _, [.int (qz v2188)], qw σ α1 κ ρ, 0, 0)
        refine qr_istore _ 38 rfl (by decide) rfl rfl ?_
        refine qr_iload 40 rfl (qm_ge _ _ _) rfl ?_
        have hJ2207 : ∀ (ls : qm_L) (u2198 u2200 u2202 : Int), qm_get ls 0 = some (.ref 64) → qm_get ls 1 = some (.int (qz x1)) → qm_get ls 2 = some (.int (qz (v6 - 1))) → qm_get ls 3 = some (.int (qz u2198)) → qm_get ls 4 = some (.int (qz u2200)) → qm_get ls 5 = some (.int (qz u2202)) → qm_get ls 6 = some (.int (qz u2157)) → (0 ≤ u2198 ∧ u2198 ≤ 4095) → ((-1) ≤ u2200 ∧ u2200 ≤ 2147483647) → ((-1) ≤ u2202 ∧ u2202 ≤ 2147483647) → qr_W (qe L xs vb) (d + 2) qx_e118 (fun r w' => ∃ α', w' = qw σ α' κ ρ ∧ qI σ α' κ ρ ∧ qFr [] [67] σ α σ α' ∧ ∃ v : Int, r = some (.long (ql v)) ∧ ((-9223372036854775808) ≤ v ∧ v ≤ 9223372036854775807)) (97, ls, [], qw σ α1 κ ρ, 0, 0) := by
          intro ls u2198 u2200 u2202 g2194 g2195 g2196 g2197 g2199 g2201 g2203 hf2204 hf2205 hf2206
          refine qr_iinc _ 100 rfl g2203 (by decide) rfl rfl ?_
          refine qr_goto 24 rfl rfl ?_
          exact ih2163 _ u2198 u2200 u2202 (u2157 + 1) (by omega) (qm_gk g2194 (by decide) (Or.inl (by decide))) (qm_gk g2195 (by decide) (Or.inl (by decide))) (qm_gk g2196 (by decide) (Or.inl (by decide))) (qm_gk g2197 (by decide) (Or.inl (by decide))) (qm_gk g2199 (by decide) (Or.inl (by decide))) (qm_gk g2201 (by decide) (Or.inr rfl)) (qm_ge _ _ _) (by omega) (by omega) (by omega) (by omega)
        refine qr_if_ge 46 43 rfl rfl rfl (by omega) (fun h2208 => ?_) (fun h2208 => ?_)
        · skip
          refine qr_iload 48 rfl (qm_ge _ _ _) rfl ?_
          refine qr_aload_n 49 rfl (qm_gk g2147 (by decide) (Or.inl (by decide))) rfl ?_
          refine qr_get 52 rfl rfl rfl (by decide) rfl ?_
          refine qr_iload_n 53 rfl (qm_gk g2149 (by decide) (Or.inl (by decide))) rfl ?_
          refine qr_iload 55 rfl (qm_gk g2156 (by decide) (Or.inr rfl)) rfl ?_
          refine qr_iconst 56 rfl rfl ?_
          refine qr_ixor 57 rfl rfl ?_
          refine qy_can (fun v2209 hv2209 => ?_)
          refine qr_iand 58 rfl rfl ?_
          refine qy_andl (by omega) (fun v2210 hv2210 => ?_)
          refine qr_iaload 59 rfl rfl (by omega) (by decide) rfl ?_
          refine qr_topI (fun v2211 hv2211 => ?_)
          have hs2212 : (-2147483648) ≤ v2211 ∧ v2211 ≤ 2147483647 := by rw [hv2211]; exact hI2.2.1 67 _ (show _ < 4096 by omega)
          refine qr_iadd 60 rfl rfl ?_
          refine qy_can (fun v2213 hv2213 => ?_)
          refine qr_istore _ 62 rfl (by decide) rfl rfl ?_
          refine qr_iload 64 rfl (qm_ge _ _ _) rfl ?_
          refine qr_iload 66 rfl (qm_gk (qm_gk g2152 (by decide) (Or.inl (by decide))) (by decide) (Or.inl (by decide))) rfl ?_
          refine qr_icmp_lt 97 69 rfl rfl rfl (by omega) (by omega) (fun h2214 => ?_) (fun h2214 => ?_)
          · skip
            exact hJ2207 _ u2151 u2153 u2155 (qm_gk (qm_gk g2147 (by decide) (Or.inl (by decide))) (by decide) (Or.inl (by decide))) (qm_gk (qm_gk g2148 (by decide) (Or.inl (by decide))) (by decide) (Or.inl (by decide))) (qm_gk (qm_gk g2149 (by decide) (Or.inl (by decide))) (by decide) (Or.inl (by decide))) (qm_gk (qm_gk g2150 (by decide) (Or.inl (by decide))) (by decide) (Or.inl (by decide))) (qm_gk (qm_gk g2152 (by decide) (Or.inl (by decide))) (by decide) (Or.inl (by decide))) (qm_gk (qm_gk g2154 (by decide) (Or.inl (by decide))) (by decide) (Or.inl (by decide))) (qm_gk (qm_gk g2156 (by decide) (Or.inr rfl)) (by decide) (Or.inl (by decide))) (by omega) (by omega) (by omega)
          · skip
            refine qr_iload 71 rfl (qm_ge _ _ _) rfl ?_
            refine qr_iload 73 rfl (qm_gk (qm_gk g2152 (by decide) (Or.inl (by decide))) (by decide) (Or.inl (by decide))) rfl ?_
            refine qr_icmp_ne 86 76 rfl rfl rfl (by omega) (by omega) (fun h2215 => ?_) (fun h2215 => ?_)
            · skip
              refine qr_iload 88 rfl (qm_gk (qm_gk g2156 (by decide) (Or.inr rfl)) (by decide) (Or.inl (by decide))) rfl ?_
              refine qr_istore_n _ 89 rfl (by decide) rfl rfl ?_
              refine qr_iload 91 rfl (qm_gk (qm_ge _ _ _) (by decide) (Or.inl (by decide))) rfl ?_
              refine qr_istore _ 93 rfl (by decide) rfl rfl ?_
              refine qr_iload 95 rfl (qm_gk (qm_gk (qm_gk (qm_ge _ _ _) (by decide) (Or.inr rfl)) (by decide) (Or.inl (by decide))) (by decide) (Or.inl (by decide))) rfl ?_
              refine qr_istore _ 97 rfl (by decide) rfl rfl ?_
              exact hJ2207 _ u2157 v2213 v2188 (qm_gk (qm_gk (qm_gk (qm_gk (qm_gk g2147 (by decide) (Or.inl (by decide))) (by decide) (Or.inl (by decide))) (by decide) (Or.inl (by decide))) (by decide) (Or.inl (by decide))) (by decide) (Or.inl (by decide))) (qm_gk (qm_gk (qm_gk (qm_gk (qm_gk g2148 (by decide) (Or.inl (by decide))) (by decide) (Or.inl (by decide))) (by decide) (Or.inl (by decide))) (by decide) (Or.inl (by decide))) (by decide) (Or.inl (by decide))) (qm_gk (qm_gk (qm_gk (qm_gk (qm_gk g2149 (by decide) (Or.inl (by decide))) (by decide) (Or.inl (by decide))) (by decide) (Or.inr rfl)) (by decide) (Or.inl (by decide))) (by decide) (Or.inl (by decide))) (qm_gk (qm_gk (qm_ge _ _ _) (by decide) (Or.inr rfl)) (by decide) (Or.inl (by decide))) (qm_gk (qm_ge _ _ _) (by decide) (Or.inr rfl)) (qm_ge _ _ _) (qm_gk (qm_gk (qm_gk (qm_gk (qm_gk g2156 (by decide) (Or.inr rfl)) (by decide) (Or.inl (by decide))) (by decide) (Or.inl (by decide))) (by decide) (Or.inl (by decide))) (by decide) (Or.inl (by decide))) (by omega) (by omega) (by omega)
            · skip
              refine qr_iload 78 rfl (qm_gk (qm_ge _ _ _) (by decide) (Or.inr rfl)) rfl ?_
              refine qr_iload 80 rfl (qm_gk (qm_gk g2154 (by decide) (Or.inl (by decide))) (by decide) (Or.inl (by decide))) rfl ?_
              refine qr_icmp_gt 86 83 rfl rfl rfl (by omega) (by omega) (fun h2216 => ?_) (fun h2216 => ?_)
              · skip
                refine qr_iload 88 rfl (qm_gk (qm_gk g2156 (by decide) (Or.inr rfl)) (by decide) (Or.inl (by decide))) rfl ?_
                refine qr_istore_n _ 89 rfl (by decide) rfl rfl ?_
                refine qr_iload 91 rfl (qm_gk (qm_ge _ _ _) (by decide) (Or.inl (by decide))) rfl ?_
                refine qr_istore _ 93 rfl (by decide) rfl rfl ?_
                refine qr_iload 95 rfl (qm_gk (qm_gk (qm_gk (qm_ge _ _ _) (by decide) (Or.inr rfl)) (by decide) (Or.inl (by decide))) (by decide) (Or.inl (by decide))) rfl ?_
                refine qr_istore _ 97 rfl (by decide) rfl rfl ?_
                exact hJ2207 _ u2157 v2213 v2188 (qm_gk (qm_gk (qm_gk (qm_gk (qm_gk g2147 (by decide) (Or.inl (by decide))) (by decide) (Or.inl (by decide))) (by decide) (Or.inl (by decide))) (by decide) (Or.inl (by decide))) (by decide) (Or.inl (by decide))) (qm_gk (qm_gk (qm_gk (qm_gk (qm_gk g2148 (by decide) (Or.inl (by decide))) (by decide) (Or.inl (by decide))) (by decide) (Or.inl (by decide))) (by decide) (Or.inl (by decide))) (by decide) (Or.inl (by decide))) (qm_gk (qm_gk (qm_gk (qm_gk (qm_gk g2149 (by decide) (Or.inl (by decide))) (by decide) (Or.inl (by decide))) (by decide) (Or.inr rfl)) (by decide) (Or.inl (by decide))) (by decide) (Or.inl (by decide))) (qm_gk (qm_gk (qm_ge _ _ _) (by decide) (Or.inr rfl)) (by decide) (Or.inl (by decide))) (qm_gk (qm_ge _ _ _) (by decide) (Or.inr rfl)) (qm_ge _ _ _) (qm_gk (qm_gk (qm_gk (qm_gk (qm_gk g2156 (by decide) (Or.inr rfl)) (by decide) (Or.inl (by decide))) (by decide) (Or.inl (by decide))) (by decide) (Or.inl (by decide))) (by decide) (Or.inl (by decide))) (by omega) (by omega) (by omega)
              · skip
                refine qr_goto 97 rfl rfl ?_
                exact hJ2207 _ u2151 u2153 u2155 (qm_gk (qm_gk g2147 (by decide) (Or.inl (by decide))) (by decide) (Or.inl (by decide))) (qm_gk (qm_gk g2148 (by decide) (Or.inl (by decide))) (by decide) (Or.inl (by decide))) (qm_gk (qm_gk g2149 (by decide) (Or.inl (by decide))) (by decide) (Or.inl (by decide))) (qm_gk (qm_gk g2150 (by decide) (Or.inl (by decide))) (by decide) (Or.inl (by decide))) (qm_gk (qm_gk g2152 (by decide) (Or.inl (by decide))) (by decide) (Or.inl (by decide))) (qm_gk (qm_gk g2154 (by decide) (Or.inl (by decide))) (by decide) (Or.inl (by decide))) (qm_gk (qm_gk g2156 (by decide) (Or.inr rfl)) (by decide) (Or.inl (by decide))) (by omega) (by omega) (by omega)
        · skip
          refine qr_goto 97 rfl rfl ?_
          exact hJ2207 _ u2151 u2153 u2155 (qm_gk g2147 (by decide) (Or.inl (by decide))) (qm_gk g2148 (by decide) (Or.inl (by decide))) (qm_gk g2149 (by decide) (Or.inl (by decide))) (qm_gk g2150 (by decide) (Or.inl (by decide))) (qm_gk g2152 (by decide) (Or.inl (by decide))) (qm_gk g2154 (by decide) (Or.inl (by decide))) (qm_gk g2156 (by decide) (Or.inr rfl)) (by omega) (by omega) (by omega)
  exact hL2162 ((4096 - 0 + 1 : Int)).toNat _ 0 (-1) (-1) 0 (by omega) rfl rfl rfl rfl rfl rfl rfl (by omega) (by omega) (by omega) (by omega)

set_option maxHeartbeats 4000000 in
set_option maxRecDepth 20000 in
/-- OneRoof$Guests.meetsEarlier -/
theorem sf_132_64 {L : Nat} {xs : Nat → Int} {vb : Bool} {d : Nat} {σ α : Nat → Nat → Int} {κ : Nat → Option Nat} {ρ : Nat} {x1 : Int} {x2 : Int} (hI : qI σ α κ ρ) (r1 : 0 ≤ x1 ∧ x1 ≤ 5) (r2 : 0 ≤ x2 ∧ x2 ≤ 5) : qm_T (qe L xs vb) (d + 2) 132 [.ref 64, .int (qz x1), .int (qz x2)] (qw σ α κ ρ) (fun r w' => w' = qw σ α κ ρ ∧ ∃ v : Int, r = some (.int (qz v)) ∧ (0 ≤ v ∧ v ≤ 1)) := by
  refine qr_start (d := d + 1) qv_e132 (Nat.le_of_ble_eq_true rfl) ?_
  show qr_W (qe L xs vb) (d + 1) qx_e132 _ (0, [(0, .ref 64), (1, .int (qz x1)), (2, .int (qz x2))], [], _, 0, 0)
  refine qr_iconst 1 rfl rfl ?_
  refine qr_iload_n 2 rfl rfl rfl ?_
  refine qr_aload_n 3 rfl rfl rfl ?_
  refine qr_get 6 rfl rfl rfl (by decide) rfl ?_
  have hs1 : (-2147483648) ≤ σ 64 7 ∧ σ 64 7 ≤ 2147483647 := hI.1 64 7
  refine qr_isub 7 rfl rfl ?_
  refine qy_can (fun v2 hv2 => ?_)
  refine qr_callN 10 rfl rfl rfl (sf_30 (d := d + 0) hI (by omega) (by omega)) ?_
  rintro _ _ ⟨rfl, v3, rfl, hv3, hp4⟩
  show qr_W (qe L xs vb) (d + 1) qx_e132 _ (10, _, [.int (qz v3)], qw σ α κ ρ, 0, 0)
  refine qr_istore_n _ 11 rfl (by decide) rfl rfl ?_
  have hL47 : ∀ (n : Nat) (ls : qm_L) (u45 : Int), ((x1 - u45).toNat : Int) < (n : Int) → qm_get ls 0 = some (.ref 64) → qm_get ls 1 = some (.int (qz x1)) → qm_get ls 2 = some (.int (qz x2)) → qm_get ls 3 = some (.int (qz u45)) → (0 ≤ u45 ∧ u45 ≤ 2147483647) → qr_W (qe L xs vb) (d + 1) qx_e132 (fun r w' => w' = qw σ α κ ρ ∧ ∃ v : Int, r = some (.int (qz v)) ∧ (0 ≤ v ∧ v ≤ 1)) (11, ls, [], qw σ α κ ρ, 0, 0) := by
    intro n
    induction n with
    | zero => intro ls u45 hm g41 g42 g43 g44 hf46; exact False.elim (by omega)
    | succ n ih48 =>
      intro ls u45 hm g41 g42 g43 g44 hf46
      refine qr_iload_n 12 rfl g44 rfl ?_
      refine qr_iload_n 13 rfl g42 rfl ?_
      refine qr_icmp_ge 48 16 rfl rfl rfl (by omega) (by omega) (fun h49 => ?_) (fun h49 => ?_)
      · skip
        refine qr_iconst 49 rfl rfl ?_
        refine qr_retZ rfl rfl (by omega) (by decide) (by decide) ?_
        exact ⟨rfl, 0, rfl, by omega⟩
      · skip
        refine qr_aload_n 17 rfl g41 rfl ?_
        refine qr_get 20 rfl rfl rfl (by decide) rfl ?_
        refine qr_iload_n 21 rfl g42 rfl ?_
        refine qr_bipush 23 rfl (by decide) rfl ?_
        refine qr_imul 24 rfl rfl ?_
        refine qr_iload_n 25 rfl g43 rfl ?_
        refine qr_iadd 26 rfl rfl ?_
        refine qr_iaload 27 rfl rfl (by omega) (by decide) rfl ?_
        refine qr_topI (fun v50 hv50 => ?_)
        have hs51 : (-2147483648) ≤ v50 ∧ v50 ≤ 2147483647 := by rw [hv50]; exact hI.2.1 68 _ (show _ < 36 by omega)
        refine qr_i2l 28 rfl (by omega) rfl ?_
        refine qr_aload_n 29 rfl g41 rfl ?_
        refine qr_get 32 rfl rfl rfl (by decide) rfl ?_
        refine qr_iload_n 33 rfl g44 rfl ?_
        refine qr_iaload 34 rfl rfl (by omega) (by decide) rfl ?_
        refine qr_topI (fun v52 hv52 => ?_)
        have hs53 : 0 ≤ v52 ∧ v52 ≤ 11 := by rw [hv52]; exact hI.2.1 69 _ (show _ < 6 by omega)
        refine qr_callN 37 rfl rfl rfl (sf_50 (d := d + 0) hI (by omega) (by omega)) ?_
        rintro _ _ ⟨rfl, v54, rfl, hv54⟩
        show qr_W (qe L xs vb) (d + 1) qx_e132 _ (37, _, [.int (qz v54)], qw σ α κ ρ, 0, 0)
        refine qr_if_eq 42 40 rfl rfl rfl (by omega) (fun h55 => ?_) (fun h55 => ?_)
        · skip
          refine qr_iinc _ 45 rfl g44 (by decide) rfl rfl ?_
          refine qr_goto 11 rfl rfl ?_
          exact ih48 _ (u45 + 1) (by omega) (qm_gk g41 (by decide) (Or.inl (by decide))) (qm_gk g42 (by decide) (Or.inl (by decide))) (qm_gk g43 (by decide) (Or.inr rfl)) (qm_ge _ _ _) (by omega)
        · skip
          refine qr_iconst 41 rfl rfl ?_
          refine qr_retZ rfl rfl (by omega) (by decide) (by decide) ?_
          exact ⟨rfl, 1, rfl, by omega⟩
  exact hL47 ((((x1 - v3).toNat : Int) + 1 : Int)).toNat _ v3 (by omega) rfl rfl rfl rfl (by omega)
