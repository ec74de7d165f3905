set_option maxHeartbeats 4000000 in
set_option maxRecDepth 20000 in
/-- OneRoof$Guests.weightAt -/
theorem sf_114_64 {L : Nat} {xs : Nat → Int} {vb : Bool} {d : Nat} {σ α : Nat → Nat → Int} {κ : Nat → Option Nat} {ρ : Nat} {x1 : Int} (hI : qI σ α κ ρ) (r1 : 0 ≤ x1 ∧ x1 ≤ 11) : qm_T (qe L xs vb) (d + 1) 114 [.ref 64, .int (qz x1)] (qw σ α κ ρ) (fun r w' => w' = qw σ α κ ρ ∧ ∃ v : Int, r = some (.int (qz v)) ∧ (0 ≤ v ∧ v ≤ 99)) := by
  refine qr_start (d := d + 0) qv_e114 (Nat.le_of_ble_eq_true rfl) ?_
  show qr_W (qe L xs vb) (d + 0) qx_e114 _ (0, [(0, .ref 64), (1, .int (qz x1))], [], _, 0, 0)
  refine qr_aload_n 1 rfl rfl rfl ?_
  refine qr_get 4 rfl rfl rfl (by decide) rfl ?_
  refine qr_get 7 rfl rfl rfl (by decide) rfl ?_
  refine qr_get 10 rfl rfl rfl (by decide) rfl ?_
  refine qr_aload_n 11 rfl rfl rfl ?_
  refine qr_get 14 rfl rfl rfl (by decide) rfl ?_
  refine qr_iload_n 15 rfl rfl rfl ?_
  refine qr_iaload 16 rfl rfl (qrgi r1 (by decide) (by decide)) (by decide) rfl ?_
  refine qr_topI (fun v1 hv1 => ?_)
  have hs2 : 0 ≤ v1 ∧ v1 ≤ 31 := by rw [hv1]; exact hI.2.1 65 _ (show _ < 12 from qrgt r1 (by decide) (by decide))
  refine qr_iaload 17 rfl rfl (qrgi hs2 (by decide) (by decide)) (by decide) rfl ?_
  refine qr_topI (fun v3 hv3 => ?_)
  have hs4 : 0 ≤ v3 ∧ v3 ≤ 99 := by rw [hv3]; exact hI.2.1 19 _ (show _ < 32 from qrgt hs2 (by decide) (by decide))
  refine qr_retI rfl rfl (by decide) (by decide) ?_
  exact ⟨rfl, v3, rfl, hs4⟩

set_option maxHeartbeats 4000000 in
set_option maxRecDepth 20000 in
/-- OneRoof$Guests.calmWeight -/
theorem sf_113_64 {L : Nat} {xs : Nat → Int} {vb : Bool} {d : Nat} {σ α : Nat → Nat → Int} {κ : Nat → Option Nat} {ρ : Nat} {x1 : Int} (hI : qI σ α κ ρ) (r1 : (-2147483648) ≤ x1 ∧ x1 ≤ 2147483647) : qm_T (qe L xs vb) (d + 2) 113 [.ref 64, .int (qz x1)] (qw σ α κ ρ) (fun r w' => w' = qw σ α κ ρ ∧ ∃ v : Int, r = some (.int (qz v)) ∧ ((-2147483648) ≤ v ∧ v ≤ 2147483647)) := by
  refine qr_start (d := d + 1) qv_e113 (Nat.le_of_ble_eq_true rfl) ?_
  show qr_W (qe L xs vb) (d + 1) qx_e113 _ (0, [(0, .ref 64), (1, .int (qz x1))], [], _, 0, 0)
  refine qr_iconst 1 rfl rfl ?_
  refine qr_istore_n _ 2 rfl (by decide) rfl rfl ?_
  refine qr_iconst 3 rfl rfl ?_
  refine qr_istore_n _ 4 rfl (by decide) rfl rfl ?_
  have hL164 : ∀ (n : Nat) (ls : qm_L) (u159 u161 : Int), 12 - u161 < (n : Int) → qm_get ls 0 = some (.ref 64) → qm_get ls 1 = some (.int (qz x1)) → qm_get ls 2 = some (.int (qz u159)) → qm_get ls 3 = some (.int (qz u161)) → ((-2147483648) ≤ u159 ∧ u159 ≤ 2147483647) → (0 ≤ u161 ∧ u161 ≤ 12) → qr_W (qe L xs vb) (d + 1) qx_e113 (fun r w' => w' = qw σ α κ ρ ∧ ∃ v : Int, r = some (.int (qz v)) ∧ ((-2147483648) ≤ v ∧ v ≤ 2147483647)) (4, ls, [], qw σ α κ ρ, 0, 0) := by
    intro n
    induction n with
    | zero => intro ls u159 u161 hm g156 g157 g158 g160 hf162 hf163; exact False.elim (by omega)
    | succ n ih165 =>
      intro ls u159 u161 hm g156 g157 g158 g160 hf162 hf163
      refine qr_iload_n 5 rfl g160 rfl ?_
      refine qr_aload_n 6 rfl g156 rfl ?_
      refine qr_get 9 rfl rfl rfl (by decide) rfl ?_
      have hs166 : 0 ≤ σ 64 2 ∧ σ 64 2 ≤ 12 := hI.1 64 2
      refine qr_icmp_ge 51 12 rfl rfl rfl (qrg hf163 (by decide) (by decide)) (qrg hs166 (by decide) (by decide)) (fun h167 => ?_) (fun h167 => ?_)
      · skip
        refine qr_iload_n 52 rfl g158 rfl ?_
        refine qr_retI rfl rfl (by decide) (by decide) ?_
        exact ⟨rfl, u159, rfl, hf162⟩
      · skip
        refine qr_iload_n 13 rfl g157 rfl ?_
        refine qr_i2l 14 rfl r1 rfl ?_
        refine qr_iload_n 15 rfl g160 rfl ?_
        refine qr_callN 18 rfl rfl rfl (sf_50 (d := d + 0) hI (qrg r1 (by decide) (by decide)) (qrg hf163 (by decide) (by decide))) ?_
        rintro _ _ ⟨rfl, v168, rfl, hv168⟩
        show qr_W (qe L xs vb) (d + 1) qx_e113 _ (18, _, [.int (qz v168)], qw σ α κ ρ, 0, 0)
        refine qr_if_ne 24 21 rfl rfl rfl (qrg hv168 (by decide) (by decide)) (fun h169 => ?_) (fun h169 => ?_)
        · skip
          refine qr_aload_n 25 rfl g156 rfl ?_
          refine qr_get 28 rfl rfl rfl (by decide) rfl ?_
          refine qr_iload_n 29 rfl g160 rfl ?_
          refine qr_iaload 30 rfl rfl (by omega) (by decide) rfl ?_
          refine qr_topI (fun v170 hv170 => ?_)
          have hs171 : (-2147483648) ≤ v170 ∧ v170 ≤ 2147483647 := by rw [hv170]; exact hI.2.1 66 _ (show _ < 12 by omega)
          refine qr_iload_n 31 rfl g157 rfl ?_
          refine qr_iand 32 rfl rfl ?_
          refine qy_can (fun v172 hv172 => ?_)
          refine qr_if_eq 37 35 rfl rfl rfl hv172 (fun h173 => ?_) (fun h173 => ?_)
          · skip
            refine qr_iload_n 38 rfl g158 rfl ?_
            refine qr_aload_n 39 rfl g156 rfl ?_
            refine qr_iload_n 40 rfl g160 rfl ?_
            refine qr_callN 43 rfl rfl rfl (sf_114_64 (d := d + 0) hI (by omega)) ?_
            rintro _ _ ⟨rfl, v174, rfl, hv174⟩
            show qr_W (qe L xs vb) (d + 1) qx_e113 _ (43, _, [.int (qz v174), .int (qz u159)], qw σ α κ ρ, 0, 0)
            refine qr_iadd 44 rfl rfl ?_
            refine qy_can (fun v175 hv175 => ?_)
            refine qr_istore_n _ 45 rfl (by decide) rfl rfl ?_
            refine qr_iinc _ 48 rfl (qm_gk g160 (by decide) (Or.inl (by decide))) (by decide) rfl rfl ?_
            refine qr_goto 4 rfl rfl ?_
            exact ih165 _ v175 (u161 + 1) (by omega) (qm_gk (qm_gk g156 (by decide) (Or.inl (by decide))) (by decide) (Or.inl (by decide))) (qm_gk (qm_gk g157 (by decide) (Or.inr rfl)) (by decide) (Or.inl (by decide))) (qm_gk (qm_ge _ _ _) (by decide) (Or.inr rfl)) (qm_ge _ _ _) hv175 (by omega)
          · skip
            refine qr_iconst 36 rfl rfl ?_
            refine qr_retI rfl rfl (by decide) (by decide) ?_
            exact ⟨rfl, (-1), rfl, (by decide)⟩
        · skip
          refine qr_goto 45 rfl rfl ?_
          refine qr_iinc _ 48 rfl g160 (by decide) rfl rfl ?_
          refine qr_goto 4 rfl rfl ?_
          exact ih165 _ u159 (u161 + 1) (by omega) (qm_gk g156 (by decide) (Or.inl (by decide))) (qm_gk g157 (by decide) (Or.inl (by decide))) (qm_gk g158 (by decide) (Or.inr rfl)) (qm_ge _ _ _) hf162 (by omega)
  exact hL164 ((12 - 0 + 1 : Int)).toNat _ 0 0 (by omega) rfl rfl rfl rfl (by decide) (by decide)

set_option maxHeartbeats 4000000 in
set_option maxRecDepth 20000 in
/-- OneRoof$Guests.asPeople -/
theorem sf_116_64 {L : Nat} {xs : Nat → Int} {vb : Bool} {d : Nat} {σ α : Nat → Nat → Int} {κ : Nat → Option Nat} {ρ : Nat} {x1 : Int} (hI : qI σ α κ ρ) (r1 : (-2147483648) ≤ x1 ∧ x1 ≤ 2147483647) : qm_T (qe L xs vb) (d + 2) 116 [.ref 64, .int (qz x1)] (qw σ α κ ρ) (fun r w' => w' = qw σ α κ ρ ∧ ∃ v : Int, r = some (.long (ql v)) ∧ ((-9223372036854775808) ≤ v ∧ v ≤ 9223372036854775807)) := by
  refine qr_start (d := d + 1) qv_e116 (Nat.le_of_ble_eq_true rfl) ?_
  show qr_W (qe L xs vb) (d + 1) qx_e116 _ (0, [(0, .ref 64), (1, .int (qz x1))], [], _, 0, 0)
  refine qr_lconst 1 rfl rfl ?_
  refine qy_vl 0 rfl ?_
  refine qr_lstore_n _ 2 rfl (by decide) rfl rfl ?_
  refine qr_iconst 3 rfl rfl ?_
  refine qr_istore _ 5 rfl (by decide) rfl rfl ?_
  have hL218 : ∀ (n : Nat) (ls : qm_L) (u213 u215 : Int), 12 - u215 < (n : Int) → qm_get ls 0 = some (.ref 64) → qm_get ls 1 = some (.int (qz x1)) → qm_get ls 2 = some (.long (ql u213)) → qm_get ls 4 = some (.int (qz u215)) → ((-9223372036854775808) ≤ u213 ∧ u213 ≤ 9223372036854775807) → (0 ≤ u215 ∧ u215 ≤ 12) → qr_W (qe L xs vb) (d + 1) qx_e116 (fun r w' => w' = qw σ α κ ρ ∧ ∃ v : Int, r = some (.long (ql v)) ∧ ((-9223372036854775808) ≤ v ∧ v ≤ 9223372036854775807)) (5, ls, [], qw σ α κ ρ, 0, 0) := by
    intro n
    induction n with
    | zero => intro ls u213 u215 hm g210 g211 g212 g214 hf216 hf217; exact False.elim (by omega)
    | succ n ih219 =>
      intro ls u213 u215 hm g210 g211 g212 g214 hf216 hf217
      refine qr_iload 7 rfl g214 rfl ?_
      refine qr_aload_n 8 rfl g210 rfl ?_
      refine qr_get 11 rfl rfl rfl (by decide) rfl ?_
      have hs220 : 0 ≤ σ 64 2 ∧ σ 64 2 ≤ 12 := hI.1 64 2
      refine qr_icmp_ge 42 14 rfl rfl rfl (qrg hf217 (by decide) (by decide)) (qrg hs220 (by decide) (by decide)) (fun h221 => ?_) (fun h221 => ?_)
      · skip
        refine qr_lload_n 43 rfl g212 rfl ?_
        refine qr_retL rfl rfl (by decide) (by decide) ?_
        exact ⟨rfl, u213, rfl, hf216⟩
      · skip
        refine qr_iload_n 15 rfl g211 rfl ?_
        refine qr_i2l 16 rfl r1 rfl ?_
        refine qr_iload 18 rfl g214 rfl ?_
        refine qr_callN 21 rfl rfl rfl (sf_50 (d := d + 0) hI (qrg r1 (by decide) (by decide)) (qrg hf217 (by decide) (by decide))) ?_
        rintro _ _ ⟨rfl, v222, rfl, hv222⟩
        show qr_W (qe L xs vb) (d + 1) qx_e116 _ (21, _, [.int (qz v222)], qw σ α κ ρ, 0, 0)
        have hJ233 : ∀ (ls : qm_L) (u230 : Int), qm_get ls 0 = some (.ref 64) → qm_get ls 1 = some (.int (qz x1)) → qm_get ls 2 = some (.long (ql u230)) → qm_get ls 4 = some (.int (qz u215)) → ((-9223372036854775808) ≤ u230 ∧ u230 ≤ 9223372036854775807) → qr_W (qe L xs vb) (d + 1) qx_e116 (fun r w' => w' = qw σ α κ ρ ∧ ∃ v : Int, r = some (.long (ql v)) ∧ ((-9223372036854775808) ≤ v ∧ v ≤ 9223372036854775807)) (36, ls, [], qw σ α κ ρ, 0, 0) := by
          intro ls u230 g227 g228 g229 g231 hf232
          refine qr_iinc _ 39 rfl g231 (by decide) rfl rfl ?_
          refine qr_goto 5 rfl rfl ?_
          exact ih219 _ u230 (u215 + 1) (by omega) (qm_gk g227 (by decide) (Or.inl (by decide))) (qm_gk g228 (by decide) (Or.inl (by decide))) (qm_gk g229 (by decide) (Or.inl (by decide))) (qm_ge _ _ _) hf232 (by omega)
        refine qr_if_eq 36 24 rfl rfl rfl (qrg hv222 (by decide) (by decide)) (fun h234 => ?_) (fun h234 => ?_)
        · skip
          exact hJ233 _ u213 g210 g211 g212 g214 hf216
        · skip
          refine qr_lload_n 25 rfl g212 rfl ?_
          refine qr_lconst 26 rfl rfl ?_
          refine qy_vl 1 rfl ?_
          refine qr_aload_n 27 rfl g210 rfl ?_
          refine qr_get 30 rfl rfl rfl (by decide) rfl ?_
          refine qr_iload 32 rfl g214 rfl ?_
          refine qr_iaload 33 rfl rfl (by omega) (by decide) rfl ?_
          refine qr_topI (fun v235 hv235 => ?_)
          have hs236 : 0 ≤ v235 ∧ v235 ≤ 31 := by rw [hv235]; exact hI.2.1 65 _ (show _ < 12 by omega)
          refine qr_lshl 34 rfl rfl ?_
          refine qy_canl (fun v237 hv237 => ?_)
          refine qr_lor 35 rfl rfl ?_
          refine qy_canl (fun v238 hv238 => ?_)
          refine qr_lstore_n _ 36 rfl (by decide) rfl rfl ?_
          exact hJ233 _ v238 (qm_gk2 g210 (by decide) (by decide) (Or.inl (by decide))) (qm_gk2 g211 (by decide) (by decide) (Or.inr rfl)) (qm_ge2 _ _ _) (qm_gk2 g214 (by decide) (by decide) (Or.inl (by decide))) hv238
  exact hL218 ((12 - 0 + 1 : Int)).toNat _ 0 0 (by omega) rfl rfl rfl rfl (by decide) (by decide)

set_option maxHeartbeats 4000000 in
set_option maxRecDepth 20000 in
/-- OneRoof$Guests.heaviest -/
theorem sf_112_64 {L : Nat} {xs : Nat → Int} {vb : Bool} {d : Nat} {σ α : Nat → Nat → Int} {κ : Nat → Option Nat} {ρ : Nat} {x1 : Int} (hI : qI σ α κ ρ) (r1 : (-9223372036854775808) ≤ x1 ∧ x1 ≤ 9223372036854775807) : qm_T (qe L xs vb) (d + 3) 112 [.ref 64, .long (ql x1)] (qw σ α κ ρ) (fun r w' => w' = qw σ α κ ρ ∧ ∃ v : Int, r = some (.long (ql v)) ∧ ((-9223372036854775808) ≤ v ∧ v ≤ 9223372036854775807)) := by
  refine qr_start (d := d + 2) qv_e112 (Nat.le_of_ble_eq_true rfl) ?_
  show qr_W (qe L xs vb) (d + 2) qx_e112 _ (0, [(0, .ref 64), (1, .long (ql x1))], [], _, 0, 0)
  refine qr_iconst 1 rfl rfl ?_
  refine qr_istore_n _ 2 rfl (by decide) rfl rfl ?_
  refine qr_iconst 3 rfl rfl ?_
  refine qr_istore _ 5 rfl (by decide) rfl rfl ?_
  have hL11566 : ∀ (n : Nat) (ls : qm_L) (u11561 u11563 : Int), 12 - u11563 < (n : Int) → qm_get ls 0 = some (.ref 64) → qm_get ls 1 = some (.long (ql x1)) → qm_get ls 3 = some (.int (qz u11561)) → qm_get ls 4 = some (.int (qz u11563)) → ((-2147483648) ≤ u11561 ∧ u11561 ≤ 2147483647) → (0 ≤ u11563 ∧ u11563 ≤ 12) → qr_W (qe L xs vb) (d + 2) qx_e112 (fun r w' => w' = qw σ α κ ρ ∧ ∃ v : Int, r = some (.long (ql v)) ∧ ((-9223372036854775808) ≤ v ∧ v ≤ 9223372036854775807)) (5, ls, [], qw σ α κ ρ, 0, 0) := by
    intro n
    induction n with
    | zero => intro ls u11561 u11563 hm g11558 g11559 g11560 g11562 hf11564 hf11565; exact False.elim (by omega)
    | succ n ih11567 =>
      intro ls u11561 u11563 hm g11558 g11559 g11560 g11562 hf11564 hf11565
      refine qr_iload 7 rfl g11562 rfl ?_
      refine qr_aload_n 8 rfl g11558 rfl ?_
      refine qr_get 11 rfl rfl rfl (by decide) rfl ?_
      have hs11568 : 0 ≤ σ 64 2 ∧ σ 64 2 ≤ 12 := hI.1 64 2
      refine qr_icmp_ge 41 14 rfl rfl rfl (qrg hf11565 (by decide) (by decide)) (qrg hs11568 (by decide) (by decide)) (fun h11581 => ?_) (fun h11581 => ?_)
      · skip
        refine qr_iconst 42 rfl rfl ?_
        refine qr_istore _ 44 rfl (by decide) rfl rfl ?_
        refine qr_iconst 45 rfl rfl ?_
        refine qr_istore _ 47 rfl (by decide) rfl rfl ?_
        refine qr_iconst 48 rfl rfl ?_
        refine qr_istore _ 50 rfl (by decide) rfl rfl ?_
        have hL13138 : ∀ (n : Nat) (ls : qm_L) (u13130 u13132 u13134 : Int), 4096 - u13134 < (n : Int) → qm_get ls 0 = some (.ref 64) → qm_get ls 3 = some (.int (qz u11561)) → qm_get ls 4 = some (.int (qz u13130)) → qm_get ls 5 = some (.int (qz u13132)) → qm_get ls 6 = some (.int (qz u13134)) → ((-1) ≤ u13130 ∧ u13130 ≤ 4095) → ((-1) ≤ u13132 ∧ u13132 ≤ 2147483647) → (0 ≤ u13134 ∧ u13134 ≤ 4096) → qr_W (qe L xs vb) (d + 2) qx_e112 (fun r w' => w' = qw σ α κ ρ ∧ ∃ v : Int, r = some (.long (ql v)) ∧ ((-9223372036854775808) ≤ v ∧ v ≤ 9223372036854775807)) (50, ls, [], qw σ α κ ρ, 0, 0) := by
          intro n
          induction n with
          | zero => intro ls u13130 u13132 u13134 hm g13127 g13128 g13129 g13131 g13133 hf13135 hf13136 hf13137; exact False.elim (by omega)
          | succ n ih13139 =>
            intro ls u13130 u13132 u13134 hm g13127 g13128 g13129 g13131 g13133 hf13135 hf13136 hf13137
            refine qr_iload 52 rfl g13133 rfl ?_
            refine qr_iconst 53 rfl rfl ?_
            refine qr_aload_n 54 rfl g13127 rfl ?_
            refine qr_get 57 rfl rfl rfl (by decide) rfl ?_
            refine qr_ishl 58 rfl rfl ?_
            refine qy_shl1 (N := 12) (by omega) (fun v13140 hv13140 => ?_)
            refine qr_icmp_ge 132 61 rfl rfl rfl (qrg hf13137 (by decide) (by decide)) (by omega) (fun h13155 => ?_) (fun h13155 => ?_)
            · skip
              refine qr_iload 134 rfl g13129 rfl ?_
              refine qr_if_ge 143 137 rfl rfl rfl (qrg hf13135 (by decide) (by decide)) (fun h13156 => ?_) (fun h13156 => ?_)
              · skip
                refine qr_aload_n 144 rfl g13127 rfl ?_
                refine qr_iload 146 rfl g13129 rfl ?_
                refine qr_callN 149 rfl rfl rfl (sf_116_64 (d := d + 0) hI (qrg hf13135 (by decide) (by decide))) ?_
                rintro _ _ ⟨rfl, v13157, rfl, hv13157⟩
                show qr_W (qe L xs vb) (d + 2) qx_e112 _ (149, _, [.long (ql v13157)], qw σ α κ ρ, 0, 0)
                refine qr_retL rfl rfl (by decide) (by decide) ?_
                exact ⟨rfl, v13157, rfl, hv13157⟩
              · skip
                refine qr_ldc2 (-2) 140 rfl (by decide) rfl ?_
                refine qr_goto 149 rfl rfl ?_
                refine qr_retL rfl rfl (by decide) (by decide) ?_
                exact ⟨rfl, (-2), rfl, (by decide)⟩
            · skip
              refine qr_iload 63 rfl g13133 rfl ?_
              refine qr_iload_n 64 rfl g13128 rfl ?_
              refine qr_iand 65 rfl rfl ?_
              refine qy_andl (by omega) (fun v13158 hv13158 => ?_)
              refine qr_iload_n 66 rfl g13128 rfl ?_
              have hJ13171 : ∀ (ls : qm_L) (u13165 u13167 : Int), qm_get ls 0 = some (.ref 64) → qm_get ls 3 = some (.int (qz u11561)) → qm_get ls 4 = some (.int (qz u13165)) → qm_get ls 5 = some (.int (qz u13167)) → qm_get ls 6 = some (.int (qz u13134)) → ((-1) ≤ u13165 ∧ u13165 ≤ 4095) → ((-1) ≤ u13167 ∧ u13167 ≤ 2147483647) → qr_W (qe L xs vb) (d + 2) qx_e112 (fun r w' => w' = qw σ α κ ρ ∧ ∃ v : Int, r = some (.long (ql v)) ∧ ((-9223372036854775808) ≤ v ∧ v ≤ 9223372036854775807)) (126, ls, [], qw σ α κ ρ, 0, 0) := by
                intro ls u13165 u13167 g13162 g13163 g13164 g13166 g13168 hf13169 hf13170
                refine qr_iinc _ 129 rfl g13168 (by decide) rfl rfl ?_
                refine qr_goto 50 rfl rfl ?_
                exact ih13139 _ u13165 u13167 (u13134 + 1) (by omega) (qm_gk g13162 (by decide) (Or.inl (by decide))) (qm_gk g13163 (by decide) (Or.inl (by decide))) (qm_gk g13164 (by decide) (Or.inl (by decide))) (qm_gk g13166 (by decide) (Or.inr rfl)) (qm_ge _ _ _) hf13169 hf13170 (by omega)
              refine qr_icmp_eq 72 69 rfl rfl rfl (by omega) hf11564 (fun h13172 => ?_) (fun h13172 => ?_)
              · skip
                refine qr_aload_n 73 rfl g13127 rfl ?_
                refine qr_iload 75 rfl g13133 rfl ?_
                refine qr_callN 78 rfl rfl rfl (sf_113_64 (d := d + 0) hI (qrg hf13137 (by decide) (by decide))) ?_
                rintro _ _ ⟨rfl, v13173, rfl, hv13173⟩
                show qr_W (qe L xs vb) (d + 2) qx_e112 _ (78, _, [.int (qz v13173)], qw σ α κ ρ, 0, 0)
                refine qr_istore _ 80 rfl (by decide) rfl rfl ?_
                refine qr_iload 82 rfl (qm_ge _ _ _) rfl ?_
                refine qr_if_lt 126 85 rfl rfl rfl hv13173 (fun h13174 => ?_) (fun h13174 => ?_)
                · skip
                  exact hJ13171 _ u13130 u13132 (qm_gk g13127 (by decide) (Or.inl (by decide))) (qm_gk g13128 (by decide) (Or.inl (by decide))) (qm_gk g13129 (by decide) (Or.inl (by decide))) (qm_gk g13131 (by decide) (Or.inl (by decide))) (qm_gk g13133 (by decide) (Or.inr rfl)) hf13135 hf13136
                · skip
                  refine qr_iload 87 rfl (qm_ge _ _ _) rfl ?_
                  refine qr_iload 89 rfl (qm_gk g13131 (by decide) (Or.inl (by decide))) rfl ?_
                  refine qr_icmp_ge 95 92 rfl rfl rfl hv13173 (qrg hf13136 (by decide) (by decide)) (fun h13175 => ?_) (fun h13175 => ?_)
                  · skip
                    refine qr_iload 97 rfl (qm_ge _ _ _) rfl ?_
                    refine qr_iload 99 rfl (qm_gk g13131 (by decide) (Or.inl (by decide))) rfl ?_
                    refine qr_icmp_ne 118 102 rfl rfl rfl hv13173 (qrg hf13136 (by decide) (by decide)) (fun h13176 => ?_) (fun h13176 => ?_)
                    · skip
                      refine qr_iload 120 rfl (qm_gk g13133 (by decide) (Or.inr rfl)) rfl ?_
                      refine qr_istore _ 122 rfl (by decide) rfl rfl ?_
                      refine qr_iload 124 rfl (qm_gk (qm_ge _ _ _) (by decide) (Or.inl (by decide))) rfl ?_
                      refine qr_istore _ 126 rfl (by decide) rfl rfl ?_
                      exact hJ13171 _ u13134 v13173 (qm_gk (qm_gk (qm_gk g13127 (by decide) (Or.inl (by decide))) (by decide) (Or.inl (by decide))) (by decide) (Or.inl (by decide))) (qm_gk (qm_gk (qm_gk g13128 (by decide) (Or.inl (by decide))) (by decide) (Or.inr rfl)) (by decide) (Or.inl (by decide))) (qm_gk (qm_ge _ _ _) (by decide) (Or.inr rfl)) (qm_ge _ _ _) (qm_gk (qm_gk (qm_gk g13133 (by decide) (Or.inr rfl)) (by decide) (Or.inl (by decide))) (by decide) (Or.inl (by decide))) (by omega) (by omega)
                    · skip
                      refine qr_iload 104 rfl (qm_gk g13133 (by decide) (Or.inr rfl)) rfl ?_
                      refine qr_callN 107 rfl rfl rfl (sf_115 (d := d + 1) hI (qrg hf13137 (by decide) (by decide))) ?_
                      rintro _ _ ⟨rfl, v13177, rfl, hv13177⟩
                      show qr_W (qe L xs vb) (d + 2) qx_e112 _ (107, _, [.int (qz v13177)], qw σ α κ ρ, 0, 0)
                      refine qr_iload 109 rfl (qm_gk g13129 (by decide) (Or.inl (by decide))) rfl ?_
                      refine qr_callN 112 rfl rfl rfl (sf_115 (d := d + 1) hI (qrg hf13135 (by decide) (by decide))) ?_
                      rintro _ _ ⟨rfl, v13178, rfl, hv13178⟩
                      show qr_W (qe L xs vb) (d + 2) qx_e112 _ (112, _, [.int (qz v13178), .int (qz v13177)], qw σ α κ ρ, 0, 0)
                      refine qr_icmp_gt 118 115 rfl rfl rfl hv13177 hv13178 (fun h13179 => ?_) (fun h13179 => ?_)
                      · skip
                        refine qr_iload 120 rfl (qm_gk g13133 (by decide) (Or.inr rfl)) rfl ?_
                        refine qr_istore _ 122 rfl (by decide) rfl rfl ?_
                        refine qr_iload 124 rfl (qm_gk (qm_ge _ _ _) (by decide) (Or.inl (by decide))) rfl ?_
                        refine qr_istore _ 126 rfl (by decide) rfl rfl ?_
                        exact hJ13171 _ u13134 v13173 (qm_gk (qm_gk (qm_gk g13127 (by decide) (Or.inl (by decide))) (by decide) (Or.inl (by decide))) (by decide) (Or.inl (by decide))) (qm_gk (qm_gk (qm_gk g13128 (by decide) (Or.inl (by decide))) (by decide) (Or.inr rfl)) (by decide) (Or.inl (by decide))) (qm_gk (qm_ge _ _ _) (by decide) (Or.inr rfl)) (qm_ge _ _ _) (qm_gk (qm_gk (qm_gk g13133 (by decide) (Or.inr rfl)) (by decide) (Or.inl (by decide))) (by decide) (Or.inl (by decide))) (by omega) (by omega)
                      · skip
                        refine qr_goto 126 rfl rfl ?_
                        exact hJ13171 _ u13130 u13132 (qm_gk g13127 (by decide) (Or.inl (by decide))) (qm_gk g13128 (by decide) (Or.inl (by decide))) (qm_gk g13129 (by decide) (Or.inl (by decide))) (qm_gk g13131 (by decide) (Or.inl (by decide))) (qm_gk g13133 (by decide) (Or.inr rfl)) hf13135 hf13136
                  · skip
                    refine qr_goto 126 rfl rfl ?_
                    exact hJ13171 _ u13130 u13132 (qm_gk g13127 (by decide) (Or.inl (by decide))) (qm_gk g13128 (by decide) (Or.inl (by decide))) (qm_gk g13129 (by decide) (Or.inl (by decide))) (qm_gk g13131 (by decide) (Or.inl (by decide))) (qm_gk g13133 (by decide) (Or.inr rfl)) hf13135 hf13136
              · skip
                refine qr_goto 126 rfl rfl ?_
                exact hJ13171 _ u13130 u13132 g13127 g13128 g13129 g13131 g13133 hf13135 hf13136
        exact hL13138 ((4096 - 0 + 1 : Int)).toNat _ (-1) (-1) 0 (by omega) (qm_gk (qm_gk (qm_gk g11558 (by decide) (Or.inl (by decide))) (by decide) (Or.inl (by decide))) (by decide) (Or.inl (by decide))) (qm_gk (qm_gk (qm_gk g11560 (by decide) (Or.inr rfl)) (by decide) (Or.inl (by decide))) (by decide) (Or.inl (by decide))) (qm_gk (qm_gk (qm_ge _ _ _) (by decide) (Or.inr rfl)) (by decide) (Or.inl (by decide))) (qm_gk (qm_ge _ _ _) (by decide) (Or.inr rfl)) (qm_ge _ _ _) (by decide) (by decide) (by decide)
      · skip
        refine qr_lload_n 15 rfl g11559 rfl ?_
        refine qr_aload_n 16 rfl g11558 rfl ?_
        refine qr_get 19 rfl rfl rfl (by decide) rfl ?_
        refine qr_iload 21 rfl g11562 rfl ?_
        refine qr_iaload 22 rfl rfl (by omega) (by decide) rfl ?_
        refine qr_topI (fun v13180 hv13180 => ?_)
        have hs13181 : 0 ≤ v13180 ∧ v13180 ≤ 31 := by rw [hv13180]; exact hI.2.1 65 _ (show _ < 12 by omega)
        refine qr_callN 25 rfl rfl rfl (sf_50 (d := d + 1) hI r1 (qrg hs13181 (by decide) (by decide))) ?_
        rintro _ _ ⟨rfl, v13182, rfl, hv13182⟩
        show qr_W (qe L xs vb) (d + 2) qx_e112 _ (25, _, [.int (qz v13182)], qw σ α κ ρ, 0, 0)
        have hJ13191 : ∀ (ls : qm_L) (u13188 : Int), qm_get ls 0 = some (.ref 64) → qm_get ls 1 = some (.long (ql x1)) → qm_get ls 3 = some (.int (qz u13188)) → qm_get ls 4 = some (.int (qz u11563)) → ((-2147483648) ≤ u13188 ∧ u13188 ≤ 2147483647) → qr_W (qe L xs vb) (d + 2) qx_e112 (fun r w' => w' = qw σ α κ ρ ∧ ∃ v : Int, r = some (.long (ql v)) ∧ ((-9223372036854775808) ≤ v ∧ v ≤ 9223372036854775807)) (35, ls, [], qw σ α κ ρ, 0, 0) := by
          intro ls u13188 g13185 g13186 g13187 g13189 hf13190
          refine qr_iinc _ 38 rfl g13189 (by decide) rfl rfl ?_
          refine qr_goto 5 rfl rfl ?_
          exact ih11567 _ u13188 (u11563 + 1) (by omega) (qm_gk g13185 (by decide) (Or.inl (by decide))) (qm_gk g13186 (by decide) (Or.inl (by decide))) (qm_gk g13187 (by decide) (Or.inr rfl)) (qm_ge _ _ _) hf13190 (by omega)
        refine qr_if_eq 35 28 rfl rfl rfl (qrg hv13182 (by decide) (by decide)) (fun h13192 => ?_) (fun h13192 => ?_)
        · skip
          exact hJ13191 _ u11561 g11558 g11559 g11560 g11562 hf11564
        · skip
          refine qr_iload_n 29 rfl g11560 rfl ?_
          refine qr_iconst 30 rfl rfl ?_
          refine qr_iload 32 rfl g11562 rfl ?_
          refine qr_ishl 33 rfl rfl ?_
          refine qy_shl1 (N := 11) (by omega) (fun v13193 hv13193 => ?_)
          refine qr_ior 34 rfl rfl ?_
          refine qy_can (fun v13194 hv13194 => ?_)
          refine qr_istore_n _ 35 rfl (by decide) rfl rfl ?_
          exact hJ13191 _ v13194 (qm_gk g11558 (by decide) (Or.inl (by decide))) (qm_gk g11559 (by decide) (Or.inl (by decide))) (qm_ge _ _ _) (qm_gk g11562 (by decide) (Or.inl (by decide))) hv13194
  exact hL11566 ((12 - 0 + 1 : Int)).toNat _ 0 0 (by omega) rfl rfl rfl rfl (by decide) (by decide)

set_option maxHeartbeats 4000000 in
set_option maxRecDepth 20000 in
/-- OneRoof$Guests.fillHeaviestWithin -/
theorem sf_119_64 {L : Nat} {xs : Nat → Int} {vb : Bool} {d : Nat} {σ α : Nat → Nat → Int} {κ : Nat → Option Nat} {ρ : Nat}  (hI : qI σ α κ ρ)  : qm_T (qe L xs vb) (d + 2) 119 [.ref 64] (qw σ α κ ρ) (fun r w' => ∃ α', w' = qw σ α' κ ρ ∧ qI σ α' κ ρ ∧ qFr [] [67] σ α σ α' ∧ r = none) := by
  refine qr_start (d := d + 1) qv_e119 (Nat.le_of_ble_eq_true rfl) ?_
  show qr_W (qe L xs vb) (d + 1) qx_e119 _ (0, [(0, .ref 64)], [], _, 0, 0)
  have hF0 := qFr_rf [] [67] σ α
  refine qr_aload_n 1 rfl rfl rfl ?_
  refine qr_get 4 rfl rfl rfl (by decide) rfl ?_
  refine qr_iconst 5 rfl rfl ?_
  refine qr_iconst 6 rfl rfl ?_
  refine qr_iastore 7 rfl (by decide) rfl (by decide) (by decide) rfl ?_
  refine qy_wA (qw_r α 67 (qzu (α 67) (0 : Int).toNat 0)) rfl (fun α1 e2 => ?_)
  have hI3 : qI σ α1 κ ρ := by rw [e2]; exact qI_r hI 67 _ rfl (show (-2147483648) ≤ 0 ∧ 0 ≤ 2147483647 by omega)
  have hF4 : qFr [] [67] σ α σ α1 := by rw [e2]; exact qFr_r hF0 67 _ (by decide)
  refine qr_iconst 8 rfl rfl ?_
  refine qr_istore_n _ 9 rfl (by decide) rfl rfl ?_
  have hL1117 : ∀ (n : Nat) (ls : qm_L) (u1111 : Int) (α1113 : Nat → Nat → Int), 4096 - u1111 < (n : Int) → qm_get ls 0 = some (.ref 64) → qm_get ls 1 = some (.int (qz u1111)) → (1 ≤ u1111 ∧ u1111 ≤ 4096) → qI σ α1113 κ ρ → qFr [] [67] σ α σ α1113 → qr_W (qe L xs vb) (d + 1) qx_e119 (fun r w' => ∃ α', w' = qw σ α' κ ρ ∧ qI σ α' κ ρ ∧ qFr [] [67] σ α σ α' ∧ r = none) (9, ls, [], qw σ α1113 κ ρ, 0, 0) := by
    intro n
    induction n with
    | zero => intro ls u1111 α1113 hm g1109 g1110 hf1116 hI1114 hF1115; exact False.elim (by omega)
    | succ n ih1118 =>
      intro ls u1111 α1113 hm g1109 g1110 hf1116 hI1114 hF1115
      refine qr_iload_n 10 rfl g1110 rfl ?_
      refine qr_iconst 11 rfl rfl ?_
      refine qr_aload_n 12 rfl g1109 rfl ?_
      refine qr_get 15 rfl rfl rfl (by decide) rfl ?_
      have hs1119 : 0 ≤ σ 64 2 ∧ σ 64 2 ≤ 12 := hI1114.1 64 2
      refine qr_ishl 16 rfl rfl ?_
      refine qy_shl1 (N := 12) (by omega) (fun v1120 hv1120 => ?_)
      refine qr_icmp_ge 72 19 rfl rfl rfl (qrg hf1116 (by decide) (by decide)) (by omega) (fun h1121 => ?_) (fun h1121 => ?_)
      · skip
        refine qr_retV rfl rfl (by decide) (by decide) ?_
        exact ⟨_, rfl, hI1114, hF1115, rfl⟩
      · skip
        refine qr_iload_n 20 rfl g1110 rfl ?_
        refine qr_callN 23 rfl rfl rfl (sf_83s (d := d + 0) hI1114 (by omega)) ?_
        rintro _ _ ⟨rfl, v1122, rfl, hv1122⟩
        show qr_W (qe L xs vb) (d + 1) qx_e119 _ (23, _, [.int (qz v1122)], qw σ α1113 κ ρ, 0, 0)
        refine qr_istore_n _ 24 rfl (by decide) rfl rfl ?_
        refine qr_iload_n 25 rfl (qm_gk g1110 (by decide) (Or.inr rfl)) rfl ?_
        refine qr_iload_n 26 rfl (qm_gk g1110 (by decide) (Or.inr rfl)) rfl ?_
        refine qr_iconst 27 rfl rfl ?_
        refine qr_isub 28 rfl rfl ?_
        refine qr_iand 29 rfl rfl ?_
        refine qy_andr (by omega) (fun v1123 hv1123 => ?_)
        refine qr_istore_n _ 30 rfl (by decide) rfl rfl ?_
        refine qr_aload_n 31 rfl (qm_gk (qm_gk g1109 (by decide) (Or.inl (by decide))) (by decide) (Or.inl (by decide))) rfl ?_
        refine qr_get 34 rfl rfl rfl (by decide) rfl ?_
        refine qr_iload_n 35 rfl (qm_gk (qm_gk g1110 (by decide) (Or.inr rfl)) (by decide) (Or.inl (by decide))) rfl ?_
        refine qr_aload_n 36 rfl (qm_gk (qm_gk g1109 (by decide) (Or.inl (by decide))) (by decide) (Or.inl (by decide))) rfl ?_
        refine qr_get 39 rfl rfl rfl (by decide) rfl ?_
        refine qr_iload_n 40 rfl (qm_ge _ _ _) rfl ?_
        refine qr_iaload 41 rfl rfl (by omega) (by decide) rfl ?_
        refine qr_topI (fun v1124 hv1124 => ?_)
        have hs1125 : (-2147483648) ≤ v1124 ∧ v1124 ≤ 2147483647 := by rw [hv1124]; exact hI1114.2.1 67 _ (show _ < 4096 by omega)
        refine qr_aload_n 42 rfl (qm_gk (qm_gk g1109 (by decide) (Or.inl (by decide))) (by decide) (Or.inl (by decide))) rfl ?_
        refine qr_iload_n 43 rfl (qm_gk (qm_ge _ _ _) (by decide) (Or.inr rfl)) rfl ?_
        refine qr_callN 46 rfl rfl rfl (sf_114_64 (d := d + 0) hI1114 hv1122) ?_
        rintro _ _ ⟨rfl, v1126, rfl, hv1126⟩
        show qr_W (qe L xs vb) (d + 1) qx_e119 _ (46, _, [.int (qz v1126), .int (qz v1124), .int (qz u1111), .ref 67], qw σ α1113 κ ρ, 0, 0)
        refine qr_aload_n 47 rfl (qm_gk (qm_gk g1109 (by decide) (Or.inl (by decide))) (by decide) (Or.inl (by decide))) rfl ?_
        refine qr_get 50 rfl rfl rfl (by decide) rfl ?_
        refine qr_iload_n 51 rfl (qm_ge _ _ _) rfl ?_
        refine qr_aload_n 52 rfl (qm_gk (qm_gk g1109 (by decide) (Or.inl (by decide))) (by decide) (Or.inl (by decide))) rfl ?_
        refine qr_get 55 rfl rfl rfl (by decide) rfl ?_
        refine qr_iload_n 56 rfl (qm_gk (qm_ge _ _ _) (by decide) (Or.inr rfl)) rfl ?_
        refine qr_iaload 57 rfl rfl (qrgi hv1122 (by decide) (by decide)) (by decide) rfl ?_
        refine qr_topI (fun v1127 hv1127 => ?_)
        have hs1128 : (-2147483648) ≤ v1127 ∧ v1127 ≤ 2147483647 := by rw [hv1127]; exact hI1114.2.1 66 _ (show _ < 12 from qrgt hv1122 (by decide) (by decide))
        refine qr_iconst 58 rfl rfl ?_
        refine qr_ixor 59 rfl rfl ?_
        refine qy_can (fun v1129 hv1129 => ?_)
        refine qr_iand 60 rfl rfl ?_
        refine qy_andl (by omega) (fun v1130 hv1130 => ?_)
        refine qr_iaload 61 rfl rfl (by omega) (by decide) rfl ?_
        refine qr_topI (fun v1131 hv1131 => ?_)
        have hs1132 : (-2147483648) ≤ v1131 ∧ v1131 ≤ 2147483647 := by rw [hv1131]; exact hI1114.2.1 67 _ (show _ < 4096 by omega)
        refine qr_iadd 62 rfl rfl ?_
        refine qy_can (fun v1133 hv1133 => ?_)
        refine qr_callN 65 rfl rfl rfl (sf_30 (d := d + 0) hI1114 hs1125 hv1133) ?_
        rintro _ _ ⟨rfl, v1134, rfl, hv1134, hp1135⟩
        show qr_W (qe L xs vb) (d + 1) qx_e119 _ (65, _, [.int (qz v1134), .int (qz u1111), .ref 67], qw σ α1113 κ ρ, 0, 0)
        refine qr_iastore 66 rfl (by decide) rfl (by omega) (by decide) rfl ?_
        refine qy_wA (qw_r α1113 67 (qzu (α1113 67) (u1111 : Int).toNat v1134)) rfl (fun α1136 e1137 => ?_)
        have hI1138 : qI σ α1136 κ ρ := by rw [e1137]; exact qI_r hI1114 67 _ rfl (show (-2147483648) ≤ v1134 ∧ v1134 ≤ 2147483647 by omega)
        have hF1139 : qFr [] [67] σ α σ α1136 := by rw [e1137]; exact qFr_r hF1115 67 _ (by decide)
        refine qr_iinc _ 69 rfl (qm_gk (qm_gk g1110 (by decide) (Or.inr rfl)) (by decide) (Or.inl (by decide))) (by decide) rfl rfl ?_
        refine qr_goto 9 rfl rfl ?_
        exact ih1118 _ (u1111 + 1) α1136 (by omega) (qm_gk (qm_gk (qm_gk g1109 (by decide) (Or.inl (by decide))) (by decide) (Or.inl (by decide))) (by decide) (Or.inr rfl)) (qm_ge _ _ _) (by omega) hI1138 hF1139
  exact hL1117 ((4096 - 1 + 1 : Int)).toNat _ 1 α1 (by omega) rfl rfl (by decide) hI3 hF4

set_option maxHeartbeats 4000000 in
set_option maxRecDepth 20000 in
/-- OneRoof$Guests.twoRooms -/
theorem sf_118_64 {L : Nat} {xs : Nat → Int} {vb : Bool} {d : Nat} {σ α : Nat → Nat → Int} {κ : Nat → Option Nat} {ρ : Nat} {x1 : Int} (hI : qI σ α κ ρ) (r1 : (-2147483648) ≤ x1 ∧ x1 ≤ 2147483647) : qm_T (qe L xs vb) (d + 3) 118 [.ref 64, .int (qz x1)] (qw σ α κ ρ) (fun r w' => ∃ α', w' = qw σ α' κ ρ ∧ qI σ α' κ ρ ∧ qFr [] [67] σ α σ α' ∧ ∃ v : Int, r = some (.long (ql v)) ∧ ((-9223372036854775808) ≤ v ∧ v ≤ 9223372036854775807)) := by
  refine qr_start (d := d + 2) qv_e118 (Nat.le_of_ble_eq_true rfl) ?_
  show qr_W (qe L xs vb) (d + 2) qx_e118 _ (0, [(0, .ref 64), (1, .int (qz x1))], [], _, 0, 0)
  have hF0 := qFr_rf [] [67] σ α
  refine qr_aload_n 1 rfl rfl rfl ?_
  refine qr_callN 4 rfl rfl rfl (sf_119_64 (d := d + 0) hI ) ?_
  rintro _ _ ⟨α1, rfl, hI2, hG3, rfl⟩
  have hF4 : qFr [] [67] σ α σ α1 := qFr_t hF0 hG3 (by decide) (by decide)
  show qr_W (qe L xs vb) (d + 2) qx_e118 _ (4, _, [], qw σ α1 κ ρ, 0, 0)
  refine qr_iconst 5 rfl rfl ?_
  refine qr_aload_n 6 rfl rfl rfl ?_
  refine qr_get 9 rfl rfl rfl (by decide) rfl ?_
  have hs5 : 0 ≤ σ 64 2 ∧ σ 64 2 ≤ 12 := hI2.1 64 2
  refine qr_ishl 10 rfl rfl ?_
  refine qy_shl1 (N := 12) (by omega) (fun v6 hv6 => ?_)
  refine qr_iconst 11 rfl rfl ?_
  refine qr_isub 12 rfl rfl ?_
  refine qr_istore_n _ 13 rfl (by decide) rfl rfl ?_
  refine qr_iconst 14 rfl rfl ?_
  refine qr_istore_n _ 15 rfl (by decide) rfl rfl ?_
  refine qr_iconst 16 rfl rfl ?_
  refine qr_istore _ 18 rfl (by decide) rfl rfl ?_
  refine qr_iconst 19 rfl rfl ?_
  refine qr_istore _ 21 rfl (by decide) rfl rfl ?_
  refine qr_iconst 22 rfl rfl ?_
  refine qr_istore _ 24 rfl (by decide) rfl rfl ?_
  have hL2162 : ∀ (n : Nat) (ls : qm_L) (u2151 u2153 u2155 u2157 : Int), 4096 - u2157 < (n : Int) → qm_get ls 0 = some (.ref 64) → qm_get ls 1 = some (.int (qz x1)) → qm_get ls 2 = some (.int (qz (v6 - 1))) → qm_get ls 3 = some (.int (qz u2151)) → qm_get ls 4 = some (.int (qz u2153)) → qm_get ls 5 = some (.int (qz u2155)) → qm_get ls 6 = some (.int (qz u2157)) → (0 ≤ u2151 ∧ u2151 ≤ 4095) → ((-1) ≤ u2153 ∧ u2153 ≤ 2147483647) → ((-1) ≤ u2155 ∧ u2155 ≤ 2147483647) → (0 ≤ u2157 ∧ u2157 ≤ 4096) → qr_W (qe L xs vb) (d + 2) qx_e118 (fun r w' => ∃ α', w' = qw σ α' κ ρ ∧ qI σ α' κ ρ ∧ qFr [] [67] σ α σ α' ∧ ∃ v : Int, r = some (.long (ql v)) ∧ ((-9223372036854775808) ≤ v ∧ v ≤ 9223372036854775807)) (24, ls, [], qw σ α1 κ ρ, 0, 0) := by
    intro n
    induction n with
    | zero => intro ls u2151 u2153 u2155 u2157 hm g2147 g2148 g2149 g2150 g2152 g2154 g2156 hf2158 hf2159 hf2160 hf2161; exact False.elim (by omega)
    | succ n ih2163 =>
      intro ls u2151 u2153 u2155 u2157 hm g2147 g2148 g2149 g2150 g2152 g2154 g2156 hf2158 hf2159 hf2160 hf2161
      refine qr_iload 26 rfl g2156 rfl ?_
      refine qr_iload_n 27 rfl g2149 rfl ?_
      refine qr_icmp_gt 103 30 rfl rfl rfl (qrg hf2161 (by decide) (by decide)) (by omega) (fun h2185 => ?_) (fun h2185 => ?_)
      · skip
        refine qr_iload_n 104 rfl g2148 rfl ?_
        refine qr_if_ne 113 107 rfl rfl rfl r1 (fun h2186 => ?_) (fun h2186 => ?_)
        · skip
          refine qr_aload_n 114 rfl g2147 rfl ?_
          refine qr_iload_n 115 rfl g2150 rfl ?_
          refine qr_callN 118 rfl rfl rfl (sf_116_64 (d := d + 0) hI2 (qrg hf2158 (by decide) (by decide))) ?_
          rintro _ _ ⟨rfl, v2187, rfl, hv2187⟩
          show qr_W (qe L xs vb) (d + 2) qx_e118 _ (118, _, [.long (ql v2187)], qw σ α1 κ ρ, 0, 0)
          refine qr_retL rfl rfl (by decide) (by decide) ?_
          exact ⟨_, rfl, hI2, hF4, v2187, rfl, hv2187⟩
        · skip
          refine qr_iload 109 rfl g2152 rfl ?_
          refine qr_i2l 110 rfl (qrg hf2159 (by decide) (by decide)) rfl ?_
          refine qr_goto 118 rfl rfl ?_
          refine qr_retL rfl rfl (by decide) (by decide) ?_
          exact ⟨_, rfl, hI2, hF4, u2153, rfl, (qrg hf2159 (by decide) (by decide))⟩
      · skip
        refine qr_aload_n 31 rfl g2147 rfl ?_
        refine qr_iload 33 rfl g2156 rfl ?_
        refine qr_callN 36 rfl rfl rfl (sf_113_64 (d := d + 0) hI2 (qrg hf2161 (by decide) (by decide))) ?_
        rintro _ _ ⟨rfl, v2188, rfl, hv2188⟩
        show qr_W (qe L xs vb) (d + 2) qx_e118 _ (36, _, [.int (qz v2188)], qw σ α1 κ ρ, 0, 0)
        refine qr_istore _ 38 rfl (by decide) rfl rfl ?_
        refine qr_iload 40 rfl (qm_ge _ _ _) rfl ?_
        have hJ2207 : ∀ (ls : qm_L) (u2198 u2200 u2202 : Int), qm_get ls 0 = some (.ref 64) → qm_get ls 1 = some (.int (qz x1)) → qm_get ls 2 = some (.int (qz (v6 - 1))) → qm_get ls 3 = some (.int (qz u2198)) → qm_get ls 4 = some (.int (qz u2200)) → qm_get ls 5 = some (.int (qz u2202)) → qm_get ls 6 = some (.int (qz u2157)) → (0 ≤ u2198 ∧ u2198 ≤ 4095) → ((-1) ≤ u2200 ∧ u2200 ≤ 2147483647) → ((-1) ≤ u2202 ∧ u2202 ≤ 2147483647) → qr_W (qe L xs vb) (d + 2) qx_e118 (fun r w' => ∃ α', w' = qw σ α' κ ρ ∧ qI σ α' κ ρ ∧ qFr [] [67] σ α σ α' ∧ ∃ v : Int, r = some (.long (ql v)) ∧ ((-9223372036854775808) ≤ v ∧ v ≤ 9223372036854775807)) (97, ls, [], qw σ α1 κ ρ, 0, 0) := by
          intro ls u2198 u2200 u2202 g2194 g2195 g2196 g2197 g2199 g2201 g2203 hf2204 hf2205 hf2206
          refine qr_iinc _ 100 rfl g2203 (by decide) rfl rfl ?_
          refine qr_goto 24 rfl rfl ?_
          exact ih2163 _ u2198 u2200 u2202 (u2157 + 1) (by omega) (qm_gk g2194 (by decide) (Or.inl (by decide))) (qm_gk g2195 (by decide) (Or.inl (by decide))) (qm_gk g2196 (by decide) (Or.inl (by decide))) (qm_gk g2197 (by decide) (Or.inl (by decide))) (qm_gk g2199 (by decide) (Or.inl (by decide))) (qm_gk g2201 (by decide) (Or.inr rfl)) (qm_ge _ _ _) hf2204 hf2205 hf2206 (by omega)
        refine qr_if_ge 46 43 rfl rfl rfl hv2188 (fun h2208 => ?_) (fun h2208 => ?_)
        · skip
          refine qr_iload 48 rfl (qm_ge _ _ _) rfl ?_
          refine qr_aload_n 49 rfl (qm_gk g2147 (by decide) (Or.inl (by decide))) rfl ?_
          refine qr_get 52 rfl rfl rfl (by decide) rfl ?_
          refine qr_iload_n 53 rfl (qm_gk g2149 (by decide) (Or.inl (by decide))) rfl ?_
          refine qr_iload 55 rfl (qm_gk g2156 (by decide) (Or.inr rfl)) rfl ?_
          refine qr_iconst 56 rfl rfl ?_
          refine qr_ixor 57 rfl rfl ?_
          refine qy_can (fun v2209 hv2209 => ?_)
          refine qr_iand 58 rfl rfl ?_
          refine qy_andl (by omega) (fun v2210 hv2210 => ?_)
          refine qr_iaload 59 rfl rfl (by omega) (by decide) rfl ?_
          refine qr_topI (fun v2211 hv2211 => ?_)
          have hs2212 : (-2147483648) ≤ v2211 ∧ v2211 ≤ 2147483647 := by rw [hv2211]; exact hI2.2.1 67 _ (show _ < 4096 by omega)
          refine qr_iadd 60 rfl rfl ?_
          refine qy_can (fun v2213 hv2213 => ?_)
          refine qr_istore _ 62 rfl (by decide) rfl rfl ?_
          refine qr_iload 64 rfl (qm_ge _ _ _) rfl ?_
          refine qr_iload 66 rfl (qm_gk (qm_gk g2152 (by decide) (Or.inl (by decide))) (by decide) (Or.inl (by decide))) rfl ?_
          refine qr_icmp_lt 97 69 rfl rfl rfl hv2213 (qrg hf2159 (by decide) (by decide)) (fun h2214 => ?_) (fun h2214 => ?_)
          · skip
            exact hJ2207 _ u2151 u2153 u2155 (qm_gk (qm_gk g2147 (by decide) (Or.inl (by decide))) (by decide) (Or.inl (by decide))) (qm_gk (qm_gk g2148 (by decide) (Or.inl (by decide))) (by decide) (Or.inl (by decide))) (qm_gk (qm_gk g2149 (by decide) (Or.inl (by decide))) (by decide) (Or.inl (by decide))) (qm_gk (qm_gk g2150 (by decide) (Or.inl (by decide))) (by decide) (Or.inl (by decide))) (qm_gk (qm_gk g2152 (by decide) (Or.inl (by decide))) (by decide) (Or.inl (by decide))) (qm_gk (qm_gk g2154 (by decide) (Or.inl (by decide))) (by decide) (Or.inl (by decide))) (qm_gk (qm_gk g2156 (by decide) (Or.inr rfl)) (by decide) (Or.inl (by decide))) hf2158 hf2159 hf2160
          · skip
            refine qr_iload 71 rfl (qm_ge _ _ _) rfl ?_
            refine qr_iload 73 rfl (qm_gk (qm_gk g2152 (by decide) (Or.inl (by decide))) (by decide) (Or.inl (by decide))) rfl ?_
            refine qr_icmp_ne 86 76 rfl rfl rfl hv2213 (qrg hf2159 (by decide) (by decide)) (fun h2215 => ?_) (fun h2215 => ?_)
            · skip
              refine qr_iload 88 rfl (qm_gk (qm_gk g2156 (by decide) (Or.inr rfl)) (by decide) (Or.inl (by decide))) rfl ?_
              refine qr_istore_n _ 89 rfl (by decide) rfl rfl ?_
              refine qr_iload 91 rfl (qm_gk (qm_ge _ _ _) (by decide) (Or.inl (by decide))) rfl ?_
              refine qr_istore _ 93 rfl (by decide) rfl rfl ?_
              refine qr_iload 95 rfl (qm_gk (qm_gk (qm_gk (qm_ge _ _ _) (by decide) (Or.inr rfl)) (by decide) (Or.inl (by decide))) (by decide) (Or.inl (by decide))) rfl ?_
              refine qr_istore _ 97 rfl (by decide) rfl rfl ?_
              exact hJ2207 _ u2157 v2213 v2188 (qm_gk (qm_gk (qm_gk (qm_gk (qm_gk g2147 (by decide) (Or.inl (by decide))) (by decide) (Or.inl (by decide))) (by decide) (Or.inl (by decide))) (by decide) (Or.inl (by decide))) (by decide) (Or.inl (by decide))) (qm_gk (qm_gk (qm_gk (qm_gk (qm_gk g2148 (by decide) (Or.inl (by decide))) (by decide) (Or.inl (by decide))) (by decide) (Or.inl (by decide))) (by decide) (Or.inl (by decide))) (by decide) (Or.inl (by decide))) (qm_gk (qm_gk (qm_gk (qm_gk (qm_gk g2149 (by decide) (Or.inl (by decide))) (by decide) (Or.inl (by decide))) (by decide) (Or.inr rfl)) (by decide) (Or.inl (by decide))) (by decide) (Or.inl (by decide))) (qm_gk (qm_gk (qm_ge _ _ _) (by decide) (Or.inr rfl)) (by decide) (Or.inl (by decide))) (qm_gk (qm_ge _ _ _) (by decide) (Or.inr rfl)) (qm_ge _ _ _) (qm_gk (qm_gk (qm_gk (qm_gk (qm_gk g2156 (by decide) (Or.inr rfl)) (by decide) (Or.inl (by decide))) (by decide) (Or.inl (by decide))) (by decide) (Or.inl (by decide))) (by decide) (Or.inl (by decide))) (by omega) (by omega) (by omega)
            · skip
              refine qr_iload 78 rfl (qm_gk (qm_ge _ _ _) (by decide) (Or.inr rfl)) rfl ?_
              refine qr_iload 80 rfl (qm_gk (qm_gk g2154 (by decide) (Or.inl (by decide))) (by decide) (Or.inl (by decide))) rfl ?_
              refine qr_icmp_gt 86 83 rfl rfl rfl hv2188 (qrg hf2160 (by decide) (by decide)) (fun h2216 => ?_) (fun h2216 => ?_)
              · skip
                refine qr_iload 88 rfl (qm_gk (qm_gk g2156 (by decide) (Or.inr rfl)) (by decide) (Or.inl (by decide))) rfl ?_
                refine qr_istore_n _ 89 rfl (by decide) rfl rfl ?_
                refine qr_iload 91 rfl (qm_gk (qm_ge _ _ _) (by decide) (Or.inl (by decide))) rfl ?_
                refine qr_istore _ 93 rfl (by decide) rfl rfl ?_
                refine qr_iload 95 rfl (qm_gk (qm_gk (qm_gk (qm_ge _ _ _) (by decide) (Or.inr rfl)) (by decide) (Or.inl (by decide))) (by decide) (Or.inl (by decide))) rfl ?_
                refine qr_istore _ 97 rfl (by decide) rfl rfl ?_
                exact hJ2207 _ u2157 v2213 v2188 (qm_gk (qm_gk (qm_gk (qm_gk (qm_gk g2147 (by decide) (Or.inl (by decide))) (by decide) (Or.inl (by decide))) (by decide) (Or.inl (by decide))) (by decide) (Or.inl (by decide))) (by decide) (Or.inl (by decide))) (qm_gk (qm_gk (qm_gk (qm_gk (qm_gk g2148 (by decide) (Or.inl (by decide))) (by decide) (Or.inl (by decide))) (by decide) (Or.inl (by decide))) (by decide) (Or.inl (by decide))) (by decide) (Or.inl (by decide))) (qm_gk (qm_gk (qm_gk (qm_gk (qm_gk g2149 (by decide) (Or.inl (by decide))) (by decide) (Or.inl (by decide))) (by decide) (Or.inr rfl)) (by decide) (Or.inl (by decide))) (by decide) (Or.inl (by decide))) (qm_gk (qm_gk (qm_ge _ _ _) (by decide) (Or.inr rfl)) (by decide) (Or.inl (by decide))) (qm_gk (qm_ge _ _ _) (by decide) (Or.inr rfl)) (qm_ge _ _ _) (qm_gk (qm_gk (qm_gk (qm_gk (qm_gk g2156 (by decide) (Or.inr rfl)) (by decide) (Or.inl (by decide))) (by decide) (Or.inl (by decide))) (by decide) (Or.inl (by decide))) (by decide) (Or.inl (by decide))) (by omega) (by omega) (by omega)
              · skip
                refine qr_goto 97 rfl rfl ?_
                exact hJ2207 _ u2151 u2153 u2155 (qm_gk (qm_gk g2147 (by decide) (Or.inl (by decide))) (by decide) (Or.inl (by decide))) (qm_gk (qm_gk g2148 (by decide) (Or.inl (by decide))) (by decide) (Or.inl (by decide))) (qm_gk (qm_gk g2149 (by decide) (Or.inl (by decide))) (by decide) (Or.inl (by decide))) (qm_gk (qm_gk g2150 (by decide) (Or.inl (by decide))) (by decide) (Or.inl (by decide))) (qm_gk (qm_gk g2152 (by decide) (Or.inl (by decide))) (by decide) (Or.inl (by decide))) (qm_gk (qm_gk g2154 (by decide) (Or.inl (by decide))) (by decide) (Or.inl (by decide))) (qm_gk (qm_gk g2156 (by decide) (Or.inr rfl)) (by decide) (Or.inl (by decide))) hf2158 hf2159 hf2160
        · skip
          refine qr_goto 97 rfl rfl ?_
          exact hJ2207 _ u2151 u2153 u2155 (qm_gk g2147 (by decide) (Or.inl (by decide))) (qm_gk g2148 (by decide) (Or.inl (by decide))) (qm_gk g2149 (by decide) (Or.inl (by decide))) (qm_gk g2150 (by decide) (Or.inl (by decide))) (qm_gk g2152 (by decide) (Or.inl (by decide))) (qm_gk g2154 (by decide) (Or.inl (by decide))) (qm_gk g2156 (by decide) (Or.inr rfl)) hf2158 hf2159 hf2160
  exact hL2162 ((4096 - 0 + 1 : Int)).toNat _ 0 (-1) (-1) 0 (by omega) rfl rfl rfl rfl rfl rfl rfl (by decide) (by decide) (by decide) (by decide)

set_option maxHeartbeats 4000000 in
set_option maxRecDepth 20000 in
/-- OneRoof$Guests.pressingFeuds -/
theorem sf_123_64 {L : Nat} {xs : Nat → Int} {vb : Bool} {d : Nat} {σ α : Nat → Nat → Int} {κ : Nat → Option Nat} {ρ : Nat} {x1 : Int} {x2 : Int} (hI : qI σ α κ ρ) (r1 : 0 ≤ x1 ∧ x1 ≤ 9999) (r2 : 0 ≤ x2 ∧ x2 ≤ 9999) : qm_T (qe L xs vb) (d + 6) 123 [.ref 64, .int (qz x1), .int (qz x2)] (qw σ α κ ρ) (fun r w' => ∃ σ' α', w' = qw σ' α' κ ρ ∧ qI σ' α' κ ρ ∧ qFr [(58, 11), (58, 12)] [53, 57, 59, 60, 61, 62, 63, 85] σ α σ' α' ∧ ∃ v : Int, r = some (.long (ql v)) ∧ ((-9223372036854775808) ≤ v ∧ v ≤ 9223372036854775807)) := by
  refine qr_start (d := d + 5) qv_e123 (Nat.le_of_ble_eq_true rfl) ?_
  show qr_W (qe L xs vb) (d + 5) qx_e123 _ (0, [(0, .ref 64), (1, .int (qz x1)), (2, .int (qz x2))], [], _, 0, 0)
  have hF0 := qFr_rf [(58, 11), (58, 12)] [53, 57, 59, 60, 61, 62, 63, 85] σ α
  refine qr_iload_n 1 rfl rfl rfl ?_
  refine qr_istore_n _ 2 rfl (by decide) rfl rfl ?_
  have hL29317 : ∀ (n : Nat) (ls : qm_L) (u29310 : Int) (σ29311 α29312 : Nat → Nat → Int), 10000 - u29310 < (n : Int) → qm_get ls 0 = some (.ref 64) → qm_get ls 1 = some (.int (qz x1)) → qm_get ls 2 = some (.int (qz x2)) → qm_get ls 3 = some (.int (qz u29310)) → (0 ≤ u29310 ∧ u29310 ≤ 10000) → qI σ29311 α29312 κ ρ → qFr [(58, 11), (58, 12)] [53, 57, 59, 60, 61, 62, 63, 85] σ α σ29311 α29312 → x1 ≤ u29310 → qr_W (qe L xs vb) (d + 5) qx_e123 (fun r w' => ∃ σ' α', w' = qw σ' α' κ ρ ∧ qI σ' α' κ ρ ∧ qFr [(58, 11), (58, 12)] [53, 57, 59, 60, 61, 62, 63, 85] σ α σ' α' ∧ ∃ v : Int, r = some (.long (ql v)) ∧ ((-9223372036854775808) ≤ v ∧ v ≤ 9223372036854775807)) (2, ls, [], qw σ29311 α29312 κ ρ, 0, 0) := by
    intro n
    induction n with
    | zero => intro ls u29310 σ29311 α29312 hm g29306 g29307 g29308 g29309 hf29315 hI29313 hF29314 hx29316; exact False.elim (by omega)
    | succ n ih29318 =>
      intro ls u29310 σ29311 α29312 hm g29306 g29307 g29308 g29309 hf29315 hI29313 hF29314 hx29316
      refine qr_iload_n 3 rfl g29309 rfl ?_
      refine qr_iload_n 4 rfl g29308 rfl ?_
      refine qr_icmp_gt 140 7 rfl rfl rfl (qrg hf29315 (by decide) (by decide)) (qrg r2 (by decide) (by decide)) (fun h29319 => ?_) (fun h29319 => ?_)
      · skip
        refine qr_lconst 141 rfl rfl ?_
        refine qy_vl 0 rfl ?_
        refine qr_retL rfl rfl (by decide) (by decide) ?_
        exact ⟨_, _, rfl, hI29313, hF29314, 0, rfl, (by decide)⟩
      · skip
        refine qr_iload_n 8 rfl g29309 rfl ?_
        refine qr_iload_n 9 rfl g29307 rfl ?_
        refine qr_icmp_le 26 12 rfl rfl rfl (qrg hf29315 (by decide) (by decide)) (qrg r1 (by decide) (by decide)) (fun h29320 => ?_) (fun h29320 => ?_)
        · skip
          refine qr_aload_n 27 rfl g29306 rfl ?_
          refine qr_get 30 rfl rfl rfl (by decide) rfl ?_
          refine qr_iload_n 31 rfl g29309 rfl ?_
          refine qr_callN 34 rfl rfl rfl (sf_89_58 (d := d + 4) hI29313 (qrg hf29315 (by decide) (by decide))) ?_
          rintro _ _ ⟨σ29321, rfl, hI29322, hG29323, rfl⟩
          have hF29324 : qFr [(58, 11), (58, 12)] [53, 57, 59, 60, 61, 62, 63, 85] σ α σ29321 α29312 := qFr_t hF29314 hG29323 (by decide) (by decide)
          show qr_W (qe L xs vb) (d + 5) qx_e123 _ (34, _, [], qw σ29321 α29312 κ ρ, 0, 0)
          refine qr_iconst 35 rfl rfl ?_
          refine qr_istore _ 37 rfl (by decide) rfl rfl ?_
          have hL32015 : ∀ (n : Nat) (ls : qm_L) (u32009 : Int) (α32011 : Nat → Nat → Int), 12 - u32009 < (n : Int) → qm_get ls 0 = some (.ref 64) → qm_get ls 1 = some (.int (qz x1)) → qm_get ls 2 = some (.int (qz x2)) → qm_get ls 3 = some (.int (qz u29310)) → qm_get ls 4 = some (.int (qz u32009)) → (0 ≤ u32009 ∧ u32009 ≤ 12) → qI σ29321 α32011 κ ρ → qFr [(58, 11), (58, 12)] [53, 57, 59, 60, 61, 62, 63, 85] σ α σ29321 α32011 → qr_W (qe L xs vb) (d + 5) qx_e123 (fun r w' => ∃ σ' α', w' = qw σ' α' κ ρ ∧ qI σ' α' κ ρ ∧ qFr [(58, 11), (58, 12)] [53, 57, 59, 60, 61, 62, 63, 85] σ α σ' α' ∧ ∃ v : Int, r = some (.long (ql v)) ∧ ((-9223372036854775808) ≤ v ∧ v ≤ 9223372036854775807)) (37, ls, [], qw σ29321 α32011 κ ρ, 0, 0) := by
            intro n
            induction n with
            | zero => intro ls u32009 α32011 hm g32004 g32005 g32006 g32007 g32008 hf32014 hI32012 hF32013; exact False.elim (by omega)
            | succ n ih32016 =>
              intro ls u32009 α32011 hm g32004 g32005 g32006 g32007 g32008 hf32014 hI32012 hF32013
              refine qr_iload 39 rfl g32008 rfl ?_
              refine qr_aload_n 40 rfl g32004 rfl ?_
              refine qr_get 43 rfl rfl rfl (by decide) rfl ?_
              have hs32017 : 0 ≤ σ29321 64 2 ∧ σ29321 64 2 ≤ 12 := hI32012.1 64 2
              refine qr_icmp_ge 134 46 rfl rfl rfl (qrg hf32014 (by decide) (by decide)) (qrg hs32017 (by decide) (by decide)) (fun h32018 => ?_) (fun h32018 => ?_)
              · skip
                refine qr_iinc _ 137 rfl g32007 (by decide) rfl rfl ?_
                refine qr_goto 2 rfl rfl ?_
                exact ih29318 _ (u29310 + 1) σ29321 α32011 (by omega) (qm_gk g32004 (by decide) (Or.inl (by decide))) (qm_gk g32005 (by decide) (Or.inl (by decide))) (qm_gk g32006 (by decide) (Or.inr rfl)) (qm_ge _ _ _) (by omega) hI32012 hF32013 (by omega)
              · skip
                refine qr_iconst 47 rfl rfl ?_
                refine qr_istore _ 49 rfl (by decide) rfl rfl ?_
                have hL32251 : ∀ (n : Nat) (ls : qm_L) (u32245 : Int) (α32247 : Nat → Nat → Int), 12 - u32245 < (n : Int) → qm_get ls 0 = some (.ref 64) → qm_get ls 1 = some (.int (qz x1)) → qm_get ls 2 = some (.int (qz x2)) → qm_get ls 3 = some (.int (qz u29310)) → qm_get ls 4 = some (.int (qz u32009)) → qm_get ls 5 = some (.int (qz u32245)) → (0 ≤ u32245 ∧ u32245 ≤ 12) → qI σ29321 α32247 κ ρ → qFr [(58, 11), (58, 12)] [53, 57, 59, 60, 61, 62, 63, 85] σ α σ29321 α32247 → qr_W (qe L xs vb) (d + 5) qx_e123 (fun r w' => ∃ σ' α', w' = qw σ' α' κ ρ ∧ qI σ' α' κ ρ ∧ qFr [(58, 11), (58, 12)] [53, 57, 59, 60, 61, 62, 63, 85] σ α σ' α' ∧ ∃ v : Int, r = some (.long (ql v)) ∧ ((-9223372036854775808) ≤ v ∧ v ≤ 9223372036854775807)) (49, ls, [], qw σ29321 α32247 κ ρ, 0, 0) := by
                  intro n
                  induction n with
                  | zero => intro ls u32245 α32247 hm g32239 g32240 g32241 g32242 g32243 g32244 hf32250 hI32248 hF32249; exact False.elim (by omega)
                  | succ n ih32252 =>
                    intro ls u32245 α32247 hm g32239 g32240 g32241 g32242 g32243 g32244 hf32250 hI32248 hF32249
                    refine qr_iload 51 rfl g32244 rfl ?_
                    refine qr_aload_n 52 rfl g32239 rfl ?_
                    refine qr_get 55 rfl rfl rfl (by decide) rfl ?_
                    refine qr_icmp_ge 128 58 rfl rfl rfl (qrg hf32250 (by decide) (by decide)) (qrg hs32017 (by decide) (by decide)) (fun h32253 => ?_) (fun h32253 => ?_)
                    · skip
                      refine qr_iinc _ 131 rfl g32243 (by decide) rfl rfl ?_
                      refine qr_goto 37 rfl rfl ?_
                      exact ih32016 _ (u32009 + 1) α32247 (by omega) (qm_gk g32239 (by decide) (Or.inl (by decide))) (qm_gk g32240 (by decide) (Or.inl (by decide))) (qm_gk g32241 (by decide) (Or.inl (by decide))) (qm_gk g32242 (by decide) (Or.inr rfl)) (qm_ge _ _ _) (by omega) hI32248 hF32249
                    · skip
                      refine qr_iload 60 rfl g32243 rfl ?_
                      refine qr_iload 62 rfl g32244 rfl ?_
                      refine qr_icmp_eq 122 65 rfl rfl rfl (qrg hf32014 (by decide) (by decide)) (qrg hf32250 (by decide) (by decide)) (fun h32254 => ?_) (fun h32254 => ?_)
                      · skip
                        refine qr_iinc _ 125 rfl g32244 (by decide) rfl rfl ?_
                        refine qr_goto 49 rfl rfl ?_
                        exact ih32252 _ (u32245 + 1) α32247 (by omega) (qm_gk g32239 (by decide) (Or.inl (by decide))) (qm_gk g32240 (by decide) (Or.inl (by decide))) (qm_gk g32241 (by decide) (Or.inl (by decide))) (qm_gk g32242 (by decide) (Or.inl (by decide))) (qm_gk g32243 (by decide) (Or.inr rfl)) (qm_ge _ _ _) (by omega) hI32248 hF32249
                      · skip
                        refine qr_aload_n 66 rfl g32239 rfl ?_
                        refine qr_get 69 rfl rfl rfl (by decide) rfl ?_
                        refine qr_aload_n 70 rfl g32239 rfl ?_
                        refine qr_get 73 rfl rfl rfl (by decide) rfl ?_
                        refine qr_iload 75 rfl g32243 rfl ?_
                        refine qr_iaload 76 rfl rfl (by omega) (by decide) rfl ?_
                        refine qr_topI (fun v32255 hv32255 => ?_)
                        have hs32256 : 0 ≤ v32255 ∧ v32255 ≤ 31 := by rw [hv32255]; exact hI32248.2.1 65 _ (show _ < 12 by omega)
                        refine qr_aload_n 77 rfl g32239 rfl ?_
                        refine qr_get 80 rfl rfl rfl (by decide) rfl ?_
                        refine qr_iload 82 rfl g32244 rfl ?_
                        refine qr_iaload 83 rfl rfl (by omega) (by decide) rfl ?_
                        refine qr_topI (fun v32257 hv32257 => ?_)
                        have hs32258 : 0 ≤ v32257 ∧ v32257 ≤ 31 := by rw [hv32257]; exact hI32248.2.1 65 _ (show _ < 12 by omega)
                        have hs32259 := qI_li hI32248 (u32009) (u32245)
                        refine qr_callN 86 rfl rfl rfl (sf_107_58 (d := d + 0) hI32248 hs32256 hs32258 (by omega)) ?_
                        rintro _ _ ⟨α32261, rfl, hI32262, hG32263, v32260, rfl, hv32260⟩
                        have hF32264 : qFr [(58, 11), (58, 12)] [53, 57, 59, 60, 61, 62, 63, 85] σ α σ29321 α32261 := qFr_t hF32249 hG32263 (by decide) (by decide)
                        show qr_W (qe L xs vb) (d + 5) qx_e123 _ (86, _, [.int (qz v32260)], qw σ29321 α32261 κ ρ, 0, 0)
                        refine qr_if_eq 122 89 rfl rfl rfl (qrg hv32260 (by decide) (by decide)) (fun h32265 => ?_) (fun h32265 => ?_)
                        · skip
                          refine qr_iinc _ 125 rfl g32244 (by decide) rfl rfl ?_
                          refine qr_goto 49 rfl rfl ?_
                          exact ih32252 _ (u32245 + 1) α32261 (by omega) (qm_gk g32239 (by decide) (Or.inl (by decide))) (qm_gk g32240 (by decide) (Or.inl (by decide))) (qm_gk g32241 (by decide) (Or.inl (by decide))) (qm_gk g32242 (by decide) (Or.inl (by decide))) (qm_gk g32243 (by decide) (Or.inr rfl)) (qm_ge _ _ _) (by omega) hI32262 hF32264
                        · skip
                          refine qr_aload_n 90 rfl g32239 rfl ?_
                          refine qr_get 93 rfl rfl rfl (by decide) rfl ?_
                          refine qr_get 96 rfl rfl rfl (by decide) rfl ?_
                          refine qr_aload_n 97 rfl g32239 rfl ?_
                          refine qr_get 100 rfl rfl rfl (by decide) rfl ?_
                          refine qr_iload 102 rfl g32243 rfl ?_
                          refine qr_iaload 103 rfl rfl (by omega) (by decide) rfl ?_
                          refine qr_topI (fun v32266 hv32266 => ?_)
                          have hs32267 : 0 ≤ v32266 ∧ v32266 ≤ 31 := by rw [hv32266]; exact hI32262.2.1 65 _ (show _ < 12 by omega)
                          refine qr_aload_n 104 rfl g32239 rfl ?_
                          refine qr_get 107 rfl rfl rfl (by decide) rfl ?_
                          refine qr_iload 109 rfl g32244 rfl ?_
                          refine qr_iaload 110 rfl rfl (by omega) (by decide) rfl ?_
                          refine qr_topI (fun v32268 hv32268 => ?_)
                          have hs32269 : 0 ≤ v32268 ∧ v32268 ≤ 31 := by rw [hv32268]; exact hI32262.2.1 65 _ (show _ < 12 by omega)
                          have hs32270 := qI_li hI32262 (u32009) (u32245)
                          refine qr_iload_n 111 rfl g32242 rfl ?_
                          refine qr_aload_n 112 rfl g32239 rfl ?_
                          refine qr_get 115 rfl rfl rfl (by decide) rfl ?_
                          refine qr_get 118 rfl rfl rfl (by decide) rfl ?_
                          refine qr_callN 121 rfl rfl rfl (sf_124_27_23 (d := d + 2) hI32262 hs32267 hs32269 (qrg hf29315 (by decide) (by decide))) ?_
                          rintro _ _ ⟨rfl, v32271, rfl, hv32271⟩
                          show qr_W (qe L xs vb) (d + 5) qx_e123 _ (121, _, [.long (ql v32271)], qw σ29321 α32261 κ ρ, 0, 0)
                          refine qr_retL rfl rfl (by decide) (by decide) ?_
                          exact ⟨_, _, rfl, hI32262, hF32264, v32271, rfl, hv32271⟩
                exact hL32251 ((12 - 0 + 1 : Int)).toNat _ 0 α32011 (by omega) (qm_gk g32004 (by decide) (Or.inl (by decide))) (qm_gk g32005 (by decide) (Or.inl (by decide))) (qm_gk g32006 (by decide) (Or.inl (by decide))) (qm_gk g32007 (by decide) (Or.inl (by decide))) (qm_gk g32008 (by decide) (Or.inr rfl)) (qm_ge _ _ _) (by decide) hI32012 hF32013
          exact hL32015 ((12 - 0 + 1 : Int)).toNat _ 0 α29312 (by omega) (qm_gk g29306 (by decide) (Or.inl (by decide))) (qm_gk g29307 (by decide) (Or.inl (by decide))) (qm_gk g29308 (by decide) (Or.inl (by decide))) (qm_gk g29309 (by decide) (Or.inr rfl)) (qm_ge _ _ _) (by decide) hI29322 hF29324
        · skip
          refine qr_aload_n 13 rfl g29306 rfl ?_
          refine qr_get 16 rfl rfl rfl (by decide) rfl ?_
          refine qr_iload_n 17 rfl g29309 rfl ?_
          refine qr_callN 20 rfl rfl rfl (sf_101_58 (d := d + 3) hI29313 (qrg hf29315 (by decide) (by decide))) ?_
          rintro _ _ ⟨rfl, v32272, rfl, hv32272⟩
          show qr_W (qe L xs vb) (d + 5) qx_e123 _ (20, _, [.int (qz v32272)], qw σ29311 α29312 κ ρ, 0, 0)
          refine qr_if_ne 26 23 rfl rfl rfl (qrg hv32272 (by decide) (by decide)) (fun h32273 => ?_) (fun h32273 => ?_)
          · skip
            refine qr_aload_n 27 rfl g29306 rfl ?_
            refine qr_get 30 rfl rfl rfl (by decide) rfl ?_
            refine qr_iload_n 31 rfl g29309 rfl ?_
            refine qr_callN 34 rfl rfl rfl (sf_89_58 (d := d + 4) hI29313 (qrg hf29315 (by decide) (by decide))) ?_
            rintro _ _ ⟨σ32274, rfl, hI32275, hG32276, rfl⟩
            have hF32277 : qFr [(58, 11), (58, 12)] [53, 57, 59, 60, 61, 62, 63, 85] σ α σ32274 α29312 := qFr_t hF29314 hG32276 (by decide) (by decide)
            show qr_W (qe L xs vb) (d + 5) qx_e123 _ (34, _, [], qw σ32274 α29312 κ ρ, 0, 0)
            refine qr_iconst 35 rfl rfl ?_
            refine qr_istore _ 37 rfl (by decide) rfl rfl ?_
            have hL34968 : ∀ (n : Nat) (ls : qm_L) (u34962 : Int) (α34964 : Nat → Nat → Int), 12 - u34962 < (n : Int) → qm_get ls 0 = some (.ref 64) → qm_get ls 1 = some (.int (qz x1)) → qm_get ls 2 = some (.int (qz x2)) → qm_get ls 3 = some (.int (qz u29310)) → qm_get ls 4 = some (.int (qz u34962)) → (0 ≤ u34962 ∧ u34962 ≤ 12) → qI σ32274 α34964 κ ρ → qFr [(58, 11), (58, 12)] [53, 57, 59, 60, 61, 62, 63, 85] σ α σ32274 α34964 → qr_W (qe L xs vb) (d + 5) qx_e123 (fun r w' => ∃ σ' α', w' = qw σ' α' κ ρ ∧ qI σ' α' κ ρ ∧ qFr [(58, 11), (58, 12)] [53, 57, 59, 60, 61, 62, 63, 85] σ α σ' α' ∧ ∃ v : Int, r = some (.long (ql v)) ∧ ((-9223372036854775808) ≤ v ∧ v ≤ 9223372036854775807)) (37, ls, [], qw σ32274 α34964 κ ρ, 0, 0) := by
              intro n
              induction n with
              | zero => intro ls u34962 α34964 hm g34957 g34958 g34959 g34960 g34961 hf34967 hI34965 hF34966; exact False.elim (by omega)
              | succ n ih34969 =>
                intro ls u34962 α34964 hm g34957 g34958 g34959 g34960 g34961 hf34967 hI34965 hF34966
                refine qr_iload 39 rfl g34961 rfl ?_
                refine qr_aload_n 40 rfl g34957 rfl ?_
                refine qr_get 43 rfl rfl rfl (by decide) rfl ?_
                have hs34970 : 0 ≤ σ32274 64 2 ∧ σ32274 64 2 ≤ 12 := hI34965.1 64 2
                refine qr_icmp_ge 134 46 rfl rfl rfl (qrg hf34967 (by decide) (by decide)) (qrg hs34970 (by decide) (by decide)) (fun h34971 => ?_) (fun h34971 => ?_)
                · skip
                  refine qr_iinc _ 137 rfl g34960 (by decide) rfl rfl ?_
                  refine qr_goto 2 rfl rfl ?_
                  exact ih29318 _ (u29310 + 1) σ32274 α34964 (by omega) (qm_gk g34957 (by decide) (Or.inl (by decide))) (qm_gk g34958 (by decide) (Or.inl (by decide))) (qm_gk g34959 (by decide) (Or.inr rfl)) (qm_ge _ _ _) (by omega) hI34965 hF34966 (by omega)
                · skip
                  refine qr_iconst 47 rfl rfl ?_
                  refine qr_istore _ 49 rfl (by decide) rfl rfl ?_
                  have hL35204 : ∀ (n : Nat) (ls : qm_L) (u35198 : Int) (α35200 : Nat → Nat → Int), 12 - u35198 < (n : Int) → qm_get ls 0 = some (.ref 64) → qm_get ls 1 = some (.int (qz x1)) → qm_get ls 2 = some (.int (qz x2)) → qm_get ls 3 = some (.int (qz u29310)) → qm_get ls 4 = some (.int (qz u34962)) → qm_get ls 5 = some (.int (qz u35198)) → (0 ≤ u35198 ∧ u35198 ≤ 12) → qI σ32274 α35200 κ ρ → qFr [(58, 11), (58, 12)] [53, 57, 59, 60, 61, 62, 63, 85] σ α σ32274 α35200 → qr_W (qe L xs vb) (d + 5) qx_e123 (fun r w' => ∃ σ' α', w' = qw σ' α' κ ρ ∧ qI σ' α' κ ρ ∧ qFr [(58, 11), (58, 12)] [53, 57, 59, 60, 61, 62, 63, 85] σ α σ' α' ∧ ∃ v : Int, r = some (.long (ql v)) ∧ ((-9223372036854775808) ≤ v ∧ v ≤ 9223372036854775807)) (49, ls, [], qw σ32274 α35200 κ ρ, 0, 0) := by
                    intro n
                    induction n with
                    | zero => intro ls u35198 α35200 hm g35192 g35193 g35194 g35195 g35196 g35197 hf35203 hI35201 hF35202; exact False.elim (by omega)
                    | succ n ih35205 =>
                      intro ls u35198 α35200 hm g35192 g35193 g35194 g35195 g35196 g35197 hf35203 hI35201 hF35202
                      refine qr_iload 51 rfl g35197 rfl ?_
                      refine qr_aload_n 52 rfl g35192 rfl ?_
                      refine qr_get 55 rfl rfl rfl (by decide) rfl ?_
                      refine qr_icmp_ge 128 58 rfl rfl rfl (qrg hf35203 (by decide) (by decide)) (qrg hs34970 (by decide) (by decide)) (fun h35206 => ?_) (fun h35206 => ?_)
                      · skip
                        refine qr_iinc _ 131 rfl g35196 (by decide) rfl rfl ?_
                        refine qr_goto 37 rfl rfl ?_
                        exact ih34969 _ (u34962 + 1) α35200 (by omega) (qm_gk g35192 (by decide) (Or.inl (by decide))) (qm_gk g35193 (by decide) (Or.inl (by decide))) (qm_gk g35194 (by decide) (Or.inl (by decide))) (qm_gk g35195 (by decide) (Or.inr rfl)) (qm_ge _ _ _) (by omega) hI35201 hF35202
                      · skip
                        refine qr_iload 60 rfl g35196 rfl ?_
                        refine qr_iload 62 rfl g35197 rfl ?_
                        refine qr_icmp_eq 122 65 rfl rfl rfl (qrg hf34967 (by decide) (by decide)) (qrg hf35203 (by decide) (by decide)) (fun h35207 => ?_) (fun h35207 => ?_)
                        · skip
                          refine qr_iinc _ 125 rfl g35197 (by decide) rfl rfl ?_
                          refine qr_goto 49 rfl rfl ?_
                          exact ih35205 _ (u35198 + 1) α35200 (by omega) (qm_gk g35192 (by decide) (Or.inl (by decide))) (qm_gk g35193 (by decide) (Or.inl (by decide))) (qm_gk g35194 (by decide) (Or.inl (by decide))) (qm_gk g35195 (by decide) (Or.inl (by decide))) (qm_gk g35196 (by decide) (Or.inr rfl)) (qm_ge _ _ _) (by omega) hI35201 hF35202
                        · skip
                          refine qr_aload_n 66 rfl g35192 rfl ?_
                          refine qr_get 69 rfl rfl rfl (by decide) rfl ?_
                          refine qr_aload_n 70 rfl g35192 rfl ?_
                          refine qr_get 73 rfl rfl rfl (by decide) rfl ?_
                          refine qr_iload 75 rfl g35196 rfl ?_
                          refine qr_iaload 76 rfl rfl (by omega) (by decide) rfl ?_
                          refine qr_topI (fun v35208 hv35208 => ?_)
                          have hs35209 : 0 ≤ v35208 ∧ v35208 ≤ 31 := by rw [hv35208]; exact hI35201.2.1 65 _ (show _ < 12 by omega)
                          refine qr_aload_n 77 rfl g35192 rfl ?_
                          refine qr_get 80 rfl rfl rfl (by decide) rfl ?_
                          refine qr_iload 82 rfl g35197 rfl ?_
                          refine qr_iaload 83 rfl rfl (by omega) (by decide) rfl ?_
                          refine qr_topI (fun v35210 hv35210 => ?_)
                          have hs35211 : 0 ≤ v35210 ∧ v35210 ≤ 31 := by rw [hv35210]; exact hI35201.2.1 65 _ (show _ < 12 by omega)
                          have hs35212 := qI_li hI35201 (u34962) (u35198)
                          refine qr_callN 86 rfl rfl rfl (sf_107_58 (d := d + 0) hI35201 hs35209 hs35211 (by omega)) ?_
                          rintro _ _ ⟨α35214, rfl, hI35215, hG35216, v35213, rfl, hv35213⟩
                          have hF35217 : qFr [(58, 11), (58, 12)] [53, 57, 59, 60, 61, 62, 63, 85] σ α σ32274 α35214 := qFr_t hF35202 hG35216 (by decide) (by decide)
                          show qr_W (qe L xs vb) (d + 5) qx_e123 _ (86, _, [.int (qz v35213)], qw σ32274 α35214 κ ρ, 0, 0)
                          refine qr_if_eq 122 89 rfl rfl rfl (qrg hv35213 (by decide) (by decide)) (fun h35218 => ?_) (fun h35218 => ?_)
                          · skip
                            refine qr_iinc _ 125 rfl g35197 (by decide) rfl rfl ?_
                            refine qr_goto 49 rfl rfl ?_
                            exact ih35205 _ (u35198 + 1) α35214 (by omega) (qm_gk g35192 (by decide) (Or.inl (by decide))) (qm_gk g35193 (by decide) (Or.inl (by decide))) (qm_gk g35194 (by decide) (Or.inl (by decide))) (qm_gk g35195 (by decide) (Or.inl (by decide))) (qm_gk g35196 (by decide) (Or.inr rfl)) (qm_ge _ _ _) (by omega) hI35215 hF35217
                          · skip
                            refine qr_aload_n 90 rfl g35192 rfl ?_
                            refine qr_get 93 rfl rfl rfl (by decide) rfl ?_
                            refine qr_get 96 rfl rfl rfl (by decide) rfl ?_
                            refine qr_aload_n 97 rfl g35192 rfl ?_
                            refine qr_get 100 rfl rfl rfl (by decide) rfl ?_
                            refine qr_iload 102 rfl g35196 rfl ?_
                            refine qr_iaload 103 rfl rfl (by omega) (by decide) rfl ?_
                            refine qr_topI (fun v35219 hv35219 => ?_)
                            have hs35220 : 0 ≤ v35219 ∧ v35219 ≤ 31 := by rw [hv35219]; exact hI35215.2.1 65 _ (show _ < 12 by omega)
                            refine qr_aload_n 104 rfl g35192 rfl ?_
                            refine qr_get 107 rfl rfl rfl (by decide) rfl ?_
                            refine qr_iload 109 rfl g35197 rfl ?_
                            refine qr_iaload 110 rfl rfl (by omega) (by decide) rfl ?_
                            refine qr_topI (fun v35221 hv35221 => ?_)
                            have hs35222 : 0 ≤ v35221 ∧ v35221 ≤ 31 := by rw [hv35221]; exact hI35215.2.1 65 _ (show _ < 12 by omega)
                            have hs35223 := qI_li hI35215 (u34962) (u35198)
                            refine qr_iload_n 111 rfl g35195 rfl ?_
                            refine qr_aload_n 112 rfl g35192 rfl ?_
                            refine qr_get 115 rfl rfl rfl (by decide) rfl ?_
                            refine qr_get 118 rfl rfl rfl (by decide) rfl ?_
                            refine qr_callN 121 rfl rfl rfl (sf_124_27_23 (d := d + 2) hI35215 hs35220 hs35222 (qrg hf29315 (by decide) (by decide))) ?_
                            rintro _ _ ⟨rfl, v35224, rfl, hv35224⟩
                            show qr_W (qe L xs vb) (d + 5) qx_e123 _ (121, _, [.long (ql v35224)], qw σ32274 α35214 κ ρ, 0, 0)
                            refine qr_retL rfl rfl (by decide) (by decide) ?_
                            exact ⟨_, _, rfl, hI35215, hF35217, v35224, rfl, hv35224⟩
                  exact hL35204 ((12 - 0 + 1 : Int)).toNat _ 0 α34964 (by omega) (qm_gk g34957 (by decide) (Or.inl (by decide))) (qm_gk g34958 (by decide) (Or.inl (by decide))) (qm_gk g34959 (by decide) (Or.inl (by decide))) (qm_gk g34960 (by decide) (Or.inl (by decide))) (qm_gk g34961 (by decide) (Or.inr rfl)) (qm_ge _ _ _) (by decide) hI34965 hF34966
            exact hL34968 ((12 - 0 + 1 : Int)).toNat _ 0 α29312 (by omega) (qm_gk g29306 (by decide) (Or.inl (by decide))) (qm_gk g29307 (by decide) (Or.inl (by decide))) (qm_gk g29308 (by decide) (Or.inl (by decide))) (qm_gk g29309 (by decide) (Or.inr rfl)) (qm_ge _ _ _) (by decide) hI32275 hF32277
          · skip
            refine qr_goto 134 rfl rfl ?_
            refine qr_iinc _ 137 rfl g29309 (by decide) rfl rfl ?_
            refine qr_goto 2 rfl rfl ?_
            exact ih29318 _ (u29310 + 1) σ29311 α29312 (by omega) (qm_gk g29306 (by decide) (Or.inl (by decide))) (qm_gk g29307 (by decide) (Or.inl (by decide))) (qm_gk g29308 (by decide) (Or.inr rfl)) (qm_ge _ _ _) (by omega) hI29313 hF29314 (by omega)
  exact hL29317 ((10000 - x1 + 1 : Int)).toNat _ x1 σ α (by omega) rfl rfl rfl rfl (qrg r1 (by decide) (by decide)) hI hF0 (by omega)

set_option maxHeartbeats 4000000 in
set_option maxRecDepth 20000 in
/-- OneRoof$Guests.payOff -/
theorem sf_121_64 {L : Nat} {xs : Nat → Int} {vb : Bool} {d : Nat} {σ α : Nat → Nat → Int} {κ : Nat → Option Nat} {ρ : Nat} {x1 : Int} {x2 : Int} {x3 : Int} (hI : qI σ α κ ρ) (r1 : 0 ≤ x1 ∧ x1 ≤ 9999) (r2 : 0 ≤ x2 ∧ x2 ≤ 9999) (r3 : (-2147483648) ≤ x3 ∧ x3 ≤ 2147483647) : qm_T (qe L xs vb) (d + 7) 121 [.ref 64, .int (qz x1), .int (qz x2), .int (qz x3)] (qw σ α κ ρ) (fun r w' => ∃ σ' α', w' = qw σ' α' κ ρ ∧ qI σ' α' κ ρ ∧ qFr [(27, 6), (58, 11), (58, 12)] [53, 57, 59, 60, 61, 62, 63, 85] σ α σ' α' ∧ ∃ v : Int, r = some (.long (ql v)) ∧ ((-9223372036854775808) ≤ v ∧ v ≤ 9223372036854775807)) := by
  refine qr_start (d := d + 6) qv_e121 (Nat.le_of_ble_eq_true rfl) ?_
  show qr_W (qe L xs vb) (d + 6) qx_e121 _ (0, [(0, .ref 64), (1, .int (qz x1)), (2, .int (qz x2)), (3, .int (qz x3))], [], _, 0, 0)
  have hF0 := qFr_rf [(27, 6), (58, 11), (58, 12)] [53, 57, 59, 60, 61, 62, 63, 85] σ α
  refine qr_aload_n 1 rfl rfl rfl ?_
  refine qr_get 4 rfl rfl rfl (by decide) rfl ?_
  refine qr_get 7 rfl rfl rfl (by decide) rfl ?_
  refine qr_astore _ 9 rfl (by decide) rfl rfl ?_
  refine qr_aload 11 rfl rfl rfl ?_
  refine qr_iload_n 12 rfl rfl rfl ?_
  refine qr_bipush 14 rfl (by decide) rfl ?_
  refine qr_callN 17 rfl rfl rfl (sf_122_27 (d := d + 4) hI (qrg r1 (by decide) (by decide)) (by decide)) ?_
  rintro _ _ ⟨rfl, v1, rfl, hv1⟩
  show qr_W (qe L xs vb) (d + 6) qx_e121 _ (17, _, [.long (ql v1)], qw σ α κ ρ, 0, 0)
  refine qr_lstore _ 19 rfl (by decide) rfl rfl ?_
  refine qr_lconst 20 rfl rfl ?_
  refine qy_vl 0 rfl ?_
  refine qr_lstore _ 22 rfl (by decide) rfl rfl ?_
  refine qr_iconst 23 rfl rfl ?_
  refine qr_istore _ 25 rfl (by decide) rfl rfl ?_
  have hL238 : ∀ (n : Nat) (ls : qm_L) (u229 u231 : Int) (σ232 α233 : Nat → Nat → Int), 11 - u231 < (n : Int) → qm_get ls 0 = some (.ref 64) → qm_get ls 1 = some (.int (qz x1)) → qm_get ls 2 = some (.int (qz x2)) → qm_get ls 3 = some (.int (qz x3)) → qm_get ls 4 = some (.ref 27) → qm_get ls 5 = some (.long (ql v1)) → qm_get ls 7 = some (.long (ql u229)) → qm_get ls 9 = some (.int (qz u231)) → ((-9223372036854775808) ≤ u229 ∧ u229 ≤ 9223372036854775807) → (0 ≤ u231 ∧ u231 ≤ 11) → qI σ232 α233 κ ρ → qFr [(27, 6), (58, 11), (58, 12)] [53, 57, 59, 60, 61, 62, 63, 85] σ α σ232 α233 → qr_W (qe L xs vb) (d + 6) qx_e121 (fun r w' => ∃ σ' α', w' = qw σ' α' κ ρ ∧ qI σ' α' κ ρ ∧ qFr [(27, 6), (58, 11), (58, 12)] [53, 57, 59, 60, 61, 62, 63, 85] σ α σ' α' ∧ ∃ v : Int, r = some (.long (ql v)) ∧ ((-9223372036854775808) ≤ v ∧ v ≤ 9223372036854775807)) (25, ls, [], qw σ232 α233 κ ρ, 0, 0) := by
    intro n
    induction n with
    | zero => intro ls u229 u231 σ232 α233 hm g222 g223 g224 g225 g226 g227 g228 g230 hf236 hf237 hI234 hF235; exact False.elim (by omega)
    | succ n ih239 =>
      intro ls u229 u231 σ232 α233 hm g222 g223 g224 g225 g226 g227 g228 g230 hf236 hf237 hI234 hF235
      refine qr_iload 27 rfl g230 rfl ?_
      refine qr_bipush 29 rfl (by decide) rfl ?_
      refine qr_icmp_gt 109 32 rfl rfl rfl (qrg hf237 (by decide) (by decide)) (by decide) (fun h240 => ?_) (fun h240 => ?_)
      · skip
        refine qr_ldc2 (-2) 112 rfl (by decide) rfl ?_
        refine qr_retL rfl rfl (by decide) (by decide) ?_
        exact ⟨_, _, rfl, hI234, hF235, (-2), rfl, (by decide)⟩
      · skip
        refine qr_aload 34 rfl g226 rfl ?_
        refine qr_lload 36 rfl g228 rfl ?_
        refine qr_put 39 rfl (by decide) rfl (Nat.le_of_ble_eq_true rfl) (Nat.le_of_ble_eq_true rfl) (Or.inl rfl) (qr_fitL rfl _) rfl ?_
        refine qy_wS (qw_s σ232 27 6 u229) rfl (fun σ241 e242 => ?_)
        have hI243 : qI σ241 α233 κ ρ := by rw [e242]; exact qI_s hI234 27 6 rfl (show (-9223372036854775808) ≤ u229 ∧ u229 ≤ 9223372036854775807 by omega)
        have hF244 : qFr [(27, 6), (58, 11), (58, 12)] [53, 57, 59, 60, 61, 62, 63, 85] σ α σ241 α233 := by rw [e242]; exact qFr_s hF235 27 6 _ (by decide)
        refine qr_aload_n 40 rfl g222 rfl ?_
        refine qr_iload_n 41 rfl g223 rfl ?_
        refine qr_iload_n 42 rfl g224 rfl ?_
        refine qr_callN 45 rfl rfl rfl (sf_123_64 (d := d + 0) hI243 r1 r2) ?_
        rintro _ _ ⟨σ246, α247, rfl, hI248, hG249, v245, rfl, hv245⟩
        have hF250 : qFr [(27, 6), (58, 11), (58, 12)] [53, 57, 59, 60, 61, 62, 63, 85] σ α σ246 α247 := qFr_t hF244 hG249 (by decide) (by decide)
        show qr_W (qe L xs vb) (d + 6) qx_e121 _ (45, _, [.long (ql v245)], qw σ246 α247 κ ρ, 0, 0)
        refine qr_lstore _ 47 rfl (by decide) rfl rfl ?_
        refine qr_aload 49 rfl (qm_gk2 g226 (by decide) (by decide) (Or.inl (by decide))) rfl ?_
        refine qr_lconst 50 rfl rfl ?_
        refine qy_vl 0 rfl ?_
        refine qr_put 53 rfl (by decide) rfl (Nat.le_of_ble_eq_true rfl) (Nat.le_of_ble_eq_true rfl) (Or.inl rfl) (qr_fitL rfl _) rfl ?_
        refine qy_wS (qw_s σ246 27 6 0) rfl (fun σ251 e252 => ?_)
        have hI253 : qI σ251 α247 κ ρ := by rw [e252]; exact qI_s hI248 27 6 rfl (show (-9223372036854775808) ≤ 0 ∧ 0 ≤ 9223372036854775807 by omega)
        have hF254 : qFr [(27, 6), (58, 11), (58, 12)] [53, 57, 59, 60, 61, 62, 63, 85] σ α σ251 α247 := by rw [e252]; exact qFr_s hF250 27 6 _ (by decide)
        refine qr_lload 55 rfl (qm_ge2 _ _ _) rfl ?_
        refine qr_lconst 56 rfl rfl ?_
        refine qy_vl 0 rfl ?_
        refine qr_lc_ne 78 60 rfl rfl rfl rfl hv245 (by decide) (fun h255 => ?_) (fun h255 => ?_)
        · skip
          refine qr_lload 80 rfl (qm_ge2 _ _ _) rfl ?_
          refine qr_lload 82 rfl (qm_gk2 g227 (by decide) (by decide) (Or.inl (by decide))) rfl ?_
          refine qr_ldc2 (-1) 85 rfl (by decide) rfl ?_
          refine qr_lxor 86 rfl rfl ?_
          refine qy_canl (fun v256 hv256 => ?_)
          refine qr_land 87 rfl rfl ?_
          refine qy_canl (fun v257 hv257 => ?_)
          refine qr_lconst 88 rfl rfl ?_
          refine qy_vl 0 rfl ?_
          refine qr_lc_eq 96 92 rfl rfl rfl rfl hv257 (by decide) (fun h258 => ?_) (fun h258 => ?_)
          · skip
            refine qr_lload 98 rfl (qm_gk2 g228 (by decide) (by decide) (Or.inl (by decide))) rfl ?_
            refine qr_lload 100 rfl (qm_ge2 _ _ _) rfl ?_
            refine qr_lor 101 rfl rfl ?_
            refine qy_canl (fun v259 hv259 => ?_)
            refine qr_lstore _ 103 rfl (by decide) rfl rfl ?_
            refine qr_iinc _ 106 rfl (qm_gk2 (qm_gk2 g230 (by decide) (by decide) (Or.inr rfl)) (by decide) (by decide) (Or.inl (by decide))) (by decide) rfl rfl ?_
            refine qr_goto 25 rfl rfl ?_
            exact ih239 _ v259 (u231 + 1) σ251 α247 (by omega) (qm_gk (qm_gk2 (qm_gk2 g222 (by decide) (by decide) (Or.inl (by decide))) (by decide) (by decide) (Or.inl (by decide))) (by decide) (Or.inl (by decide))) (qm_gk (qm_gk2 (qm_gk2 g223 (by decide) (by decide) (Or.inl (by decide))) (by decide) (by decide) (Or.inl (by decide))) (by decide) (Or.inl (by decide))) (qm_gk (qm_gk2 (qm_gk2 g224 (by decide) (by decide) (Or.inl (by decide))) (by decide) (by decide) (Or.inl (by decide))) (by decide) (Or.inl (by decide))) (qm_gk (qm_gk2 (qm_gk2 g225 (by decide) (by decide) (Or.inl (by decide))) (by decide) (by decide) (Or.inl (by decide))) (by decide) (Or.inl (by decide))) (qm_gk (qm_gk2 (qm_gk2 g226 (by decide) (by decide) (Or.inl (by decide))) (by decide) (by decide) (Or.inl (by decide))) (by decide) (Or.inl (by decide))) (qm_gk (qm_gk2 (qm_gk2 g227 (by decide) (by decide) (Or.inl (by decide))) (by decide) (by decide) (Or.inl (by decide))) (by decide) (Or.inl (by decide))) (qm_gk (qm_ge2 _ _ _) (by decide) (Or.inl (by decide))) (qm_ge _ _ _) hv259 (by omega) hI253 hF254
          · skip
            refine qr_ldc2 (-2) 95 rfl (by decide) rfl ?_
            refine qr_retL rfl rfl (by decide) (by decide) ?_
            exact ⟨_, _, rfl, hI253, hF254, (-2), rfl, (by decide)⟩
        · skip
          refine qr_iload_n 61 rfl (qm_gk2 g225 (by decide) (by decide) (Or.inl (by decide))) rfl ?_
          refine qr_if_ne 75 64 rfl rfl rfl r3 (fun h260 => ?_) (fun h260 => ?_)
          · skip
            refine qr_lload 77 rfl (qm_gk2 g228 (by decide) (by decide) (Or.inl (by decide))) rfl ?_
            refine qr_retL rfl rfl (by decide) (by decide) ?_
            exact ⟨_, _, rfl, hI253, hF254, u229, rfl, hf236⟩
          · skip
            refine qr_aload 66 rfl (qm_gk2 g226 (by decide) (by decide) (Or.inl (by decide))) rfl ?_
            refine qr_lload 68 rfl (qm_gk2 g228 (by decide) (by decide) (Or.inl (by decide))) rfl ?_
            refine qr_callN 71 rfl rfl rfl (sf_125_27 (d := d + 4) hI253 hf236) ?_
            rintro _ _ ⟨rfl, v261, rfl, hv261⟩
            show qr_W (qe L xs vb) (d + 6) qx_e121 _ (71, _, [.int (qz v261)], qw σ251 α247 κ ρ, 0, 0)
            refine qr_i2l 72 rfl hv261 rfl ?_
            refine qr_goto 77 rfl rfl ?_
            refine qr_retL rfl rfl (by decide) (by decide) ?_
            exact ⟨_, _, rfl, hI253, hF254, v261, rfl, (qrg hv261 (by decide) (by decide))⟩
  exact hL238 ((11 - 0 + 1 : Int)).toNat _ 0 0 σ α (by omega) rfl rfl rfl rfl rfl rfl rfl rfl (by decide) (by decide) hI hF0

set_option maxHeartbeats 4000000 in
set_option maxRecDepth 20000 in
/-- OneRoof$Guests.clash -/
theorem sf_129_64 {L : Nat} {xs : Nat → Int} {vb : Bool} {d : Nat} {σ α : Nat → Nat → Int} {κ : Nat → Option Nat} {ρ : Nat} {x1 : Int} {x2 : Int} (hI : qI σ α κ ρ) (r1 : 0 ≤ x1 ∧ x1 ≤ 31) (r2 : 0 ≤ x2 ∧ x2 ≤ 31) (p0 : ¬ x1 = x2) : qm_T (qe L xs vb) (d + 4) 129 [.ref 64, .int (qz x1), .int (qz x2)] (qw σ α κ ρ) (fun r w' => ∃ α', w' = qw σ α' κ ρ ∧ qI σ α' κ ρ ∧ qFr [] [60, 61, 62, 63] σ α σ α' ∧ ∃ v : Int, r = some (.int (qz v)) ∧ (0 ≤ v ∧ v ≤ 1)) := by
  refine qr_start (d := d + 3) qv_e129 (Nat.le_of_ble_eq_true rfl) ?_
  show qr_W (qe L xs vb) (d + 3) qx_e129 _ (0, [(0, .ref 64), (1, .int (qz x1)), (2, .int (qz x2))], [], _, 0, 0)
  have hF0 := qFr_rf [] [60, 61, 62, 63] σ α
  refine qr_aload_n 1 rfl rfl rfl ?_
  refine qr_get 4 rfl rfl rfl (by decide) rfl ?_
  refine qr_get 7 rfl rfl rfl (by decide) rfl ?_
  refine qr_get 10 rfl rfl rfl (by decide) rfl ?_
  refine qr_iload_n 11 rfl rfl rfl ?_
  refine qr_iaload 12 rfl rfl (qrgi r1 (by decide) (by decide)) (by decide) rfl ?_
  refine qr_topI (fun v1 hv1 => ?_)
  have hs2 : (-2147483648) ≤ v1 ∧ v1 ≤ 2147483647 := by rw [hv1]; exact hI.2.1 21 _ (show _ < 32 from qrgt r1 (by decide) (by decide))
  refine qr_aload_n 13 rfl rfl rfl ?_
  refine qr_get 16 rfl rfl rfl (by decide) rfl ?_
  refine qr_get 19 rfl rfl rfl (by decide) rfl ?_
  refine qr_get 22 rfl rfl rfl (by decide) rfl ?_
  refine qr_iload_n 23 rfl rfl rfl ?_
  refine qr_iaload 24 rfl rfl (qrgi r2 (by decide) (by decide)) (by decide) rfl ?_
  refine qr_topI (fun v3 hv3 => ?_)
  have hs4 : (-2147483648) ≤ v3 ∧ v3 ≤ 2147483647 := by rw [hv3]; exact hI.2.1 21 _ (show _ < 32 from qrgt r2 (by decide) (by decide))
  refine qr_icmp_ne 60 27 rfl rfl rfl hs2 hs4 (fun h5 => ?_) (fun h5 => ?_)
  · skip
    refine qr_iconst 61 rfl rfl ?_
    refine qr_retZ rfl rfl (Or.inl rfl) (by decide) (by decide) ?_
    exact ⟨_, rfl, hI, hF0, 0, rfl, (by decide)⟩
  · skip
    refine qr_aload_n 28 rfl rfl rfl ?_
    refine qr_get 31 rfl rfl rfl (by decide) rfl ?_
    refine qr_iload_n 32 rfl rfl rfl ?_
    refine qr_iload_n 33 rfl rfl rfl ?_
    refine qr_callN 36 rfl rfl rfl (sf_92_58 (d := d + 0) hI r1 r2 (by omega)) ?_
    rintro _ _ ⟨α7, rfl, hI8, hG9, v6, rfl, hv6⟩
    have hF10 : qFr [] [60, 61, 62, 63] σ α σ α7 := qFr_t hF0 hG9 (by decide) (by decide)
    show qr_W (qe L xs vb) (d + 3) qx_e129 _ (36, _, [.int (qz v6)], qw σ α7 κ ρ, 0, 0)
    refine qr_sipush 39 rfl (by decide) rfl ?_
    refine qr_icmp_ge 60 42 rfl rfl rfl (qrg hv6 (by decide) (by decide)) (by decide) (fun h11 => ?_) (fun h11 => ?_)
    · skip
      refine qr_iconst 61 rfl rfl ?_
      refine qr_retZ rfl rfl (Or.inl rfl) (by decide) (by decide) ?_
      exact ⟨_, rfl, hI8, hF10, 0, rfl, (by decide)⟩
    · skip
      refine qr_aload_n 43 rfl rfl rfl ?_
      refine qr_get 46 rfl rfl rfl (by decide) rfl ?_
      refine qr_iload_n 47 rfl rfl rfl ?_
      refine qr_iload_n 48 rfl rfl rfl ?_
      refine qr_callN 51 rfl rfl rfl (sf_94_58 (d := d + 0) hI8 r1 r2 (by omega)) ?_
      rintro _ _ ⟨α13, rfl, hI14, hG15, v12, rfl, hv12⟩
      have hF16 : qFr [] [60, 61, 62, 63] σ α σ α13 := qFr_t hF10 hG15 (by decide) (by decide)
      show qr_W (qe L xs vb) (d + 3) qx_e129 _ (51, _, [.long (ql v12)], qw σ α13 κ ρ, 0, 0)
      refine qr_lconst 52 rfl rfl ?_
      refine qy_vl 0 rfl ?_
      refine qr_lc_ne 60 56 rfl rfl rfl rfl hv12 (by decide) (fun h17 => ?_) (fun h17 => ?_)
      · skip
        refine qr_iconst 61 rfl rfl ?_
        refine qr_retZ rfl rfl (Or.inl rfl) (by decide) (by decide) ?_
        exact ⟨_, rfl, hI14, hF16, 0, rfl, (by decide)⟩
      · skip
        refine qr_iconst 57 rfl rfl ?_
        refine qr_goto 61 rfl rfl ?_
        refine qr_retZ rfl rfl (Or.inr rfl) (by decide) (by decide) ?_
        exact ⟨_, rfl, hI14, hF16, 1, rfl, (by decide)⟩

set_option maxHeartbeats 4000000 in
set_option maxRecDepth 20000 in
/-- OneRoof$Guests.learnMeetings -/
theorem sf_128_64 {L : Nat} {xs : Nat → Int} {vb : Bool} {d : Nat} {σ α : Nat → Nat → Int} {κ : Nat → Option Nat} {ρ : Nat} {x1 : Int} {x2 : Int} {x3 : Int} (hI : qI σ α κ ρ) (r1 : 0 ≤ x1 ∧ x1 ≤ 2399) (r2 : 0 ≤ x2 ∧ x2 ≤ 99) (r3 : 0 ≤ x3 ∧ x3 ≤ 99) (p0 : σ 64 2 ≤ 6) : qm_T (qe L xs vb) (d + 5) 128 [.ref 64, .int (qz x1), .int (qz x2), .int (qz x3)] (qw σ α κ ρ) (fun r w' => ∃ σ' α', w' = qw σ' α' κ ρ ∧ qI σ' α' κ ρ ∧ qFr [(58, 11), (58, 12), (64, 7)] [60, 61, 62, 63, 68] σ α σ' α' ∧ r = none) := by
  refine qr_start (d := d + 4) qv_e128 (Nat.le_of_ble_eq_true rfl) ?_
  show qr_W (qe L xs vb) (d + 4) qx_e128 _ (0, [(0, .ref 64), (1, .int (qz x1)), (2, .int (qz x2)), (3, .int (qz x3))], [], _, 0, 0)
  have hF0 := qFr_rf [(58, 11), (58, 12), (64, 7)] [60, 61, 62, 63, 68] σ α
  have hz64_2 : 0 ≤ σ 64 2 ∧ σ 64 2 ≤ 12 := hI.1 64 2
  refine qr_aload_n 1 rfl rfl rfl ?_
  refine qr_iload_n 2 rfl rfl rfl ?_
  refine qr_iconst 3 rfl rfl ?_
  have hJ7 : ∀ (ls : qm_L) (u5 : Int), qm_get ls 0 = some (.ref 64) → qm_get ls 1 = some (.int (qz x1)) → qm_get ls 2 = some (.int (qz x2)) → ((-2147483648) ≤ u5 ∧ u5 ≤ 2147483647) → qr_W (qe L xs vb) (d + 4) qx_e128 (fun r w' => ∃ σ' α', w' = qw σ' α' κ ρ ∧ qI σ' α' κ ρ ∧ qFr [(58, 11), (58, 12), (64, 7)] [60, 61, 62, 63, 68] σ α σ' α' ∧ r = none) (13, ls, [.int (qz u5), .ref 64], qw σ α κ ρ, 0, 0) := by
    intro ls u5 g2 g3 g4 hf6
    refine qr_put 16 rfl (by decide) rfl (Nat.le_of_ble_eq_true rfl) (Nat.le_of_ble_eq_true rfl) (Or.inl rfl) (qr_fitI rfl _) rfl ?_
    refine qy_wS (qw_s σ 64 7 u5) rfl (fun σ8 e9 => ?_)
    have hI10 : qI σ8 α κ ρ := by rw [e9]; exact qI_s hI 64 7 rfl (show (-2147483648) ≤ u5 ∧ u5 ≤ 2147483647 by omega)
    have hF11 : qFr [(58, 11), (58, 12), (64, 7)] [60, 61, 62, 63, 68] σ α σ8 α := by rw [e9]; exact qFr_s hF0 64 7 _ (by decide)
    refine qr_aload_n 17 rfl g2 rfl ?_
    refine qr_get 20 rfl rfl rfl (by decide) rfl ?_
    refine qr_iconst 21 rfl rfl ?_
    refine qr_callN 24 rfl rfl rfl (sf_4_68 (d := d + 3) hI10 (by decide)) ?_
    rintro _ _ ⟨α12, rfl, hI13, hG14, rfl⟩
    have hF15 : qFr [(58, 11), (58, 12), (64, 7)] [60, 61, 62, 63, 68] σ α σ8 α12 := qFr_t hF11 hG14 (by decide) (by decide)
    show qr_W (qe L xs vb) (d + 4) qx_e128 _ (24, _, [], qw σ8 α12 κ ρ, 0, 0)
    refine qr_iconst 25 rfl rfl ?_
    refine qr_istore _ 27 rfl (by decide) rfl rfl ?_
    have hL120500 : ∀ (n : Nat) (ls : qm_L) (u120492 : Int) (σ120493 α120494 : Nat → Nat → Int), 6 - u120492 < (n : Int) → qm_get ls 0 = some (.ref 64) → qm_get ls 1 = some (.int (qz x1)) → qm_get ls 2 = some (.int (qz x2)) → qm_get ls 4 = some (.int (qz u120492)) → (0 ≤ u120492 ∧ u120492 ≤ 6) → qI σ120493 α120494 κ ρ → qFr [(58, 11), (58, 12), (64, 7)] [60, 61, 62, 63, 68] σ α σ120493 α120494 → σ120493 64 2 = (σ 64 2) → σ120493 64 7 = u5 → qr_W (qe L xs vb) (d + 4) qx_e128 (fun r w' => ∃ σ' α', w' = qw σ' α' κ ρ ∧ qI σ' α' κ ρ ∧ qFr [(58, 11), (58, 12), (64, 7)] [60, 61, 62, 63, 68] σ α σ' α' ∧ r = none) (27, ls, [], qw σ120493 α120494 κ ρ, 0, 0) := by
      intro n
      induction n with
      | zero => intro ls u120492 σ120493 α120494 hm g120488 g120489 g120490 g120491 hf120499 hI120495 hF120496 hk120497 hk120498; exact False.elim (by omega)
      | succ n ih120501 =>
        intro ls u120492 σ120493 α120494 hm g120488 g120489 g120490 g120491 hf120499 hI120495 hF120496 hk120497 hk120498
        refine qr_iload 29 rfl g120491 rfl ?_
        refine qr_aload_n 30 rfl g120488 rfl ?_
        refine qr_get 33 rfl rfl rfl (by decide) rfl ?_
        refine qy_v (σ 64 2) ((hk120497).trans rfl) ?_
        refine qr_icmp_ge 139 36 rfl rfl rfl (qrg hf120499 (by decide) (by decide)) (qrg hz64_2 (by decide) (by decide)) (fun h120502 => ?_) (fun h120502 => ?_)
        · skip
          refine qr_retV rfl rfl (by decide) (by decide) ?_
          exact ⟨_, _, rfl, hI120495, hF120496, rfl⟩
        · skip
          refine qr_aload_n 37 rfl g120488 rfl ?_
          refine qr_get 40 rfl rfl rfl (by decide) rfl ?_
          refine qr_iload_n 41 rfl g120489 rfl ?_
          refine qr_iload 43 rfl g120491 rfl ?_
          refine qr_iload_n 44 rfl g120490 rfl ?_
          refine qr_imul 45 rfl rfl ?_
          refine qy_mulb (A := 5) (B := 99) (C := 495) (by omega) (by omega) (by decide) (fun v120503 hv120503 => ?_)
          refine qr_iadd 46 rfl rfl ?_
          refine qr_callN 49 rfl rfl rfl (sf_89_58 (d := d + 3) hI120495 (by omega)) ?_
          rintro _ _ ⟨σ120504, rfl, hI120505, hG120506, rfl⟩
          have hF120507 : qFr [(58, 11), (58, 12), (64, 7)] [60, 61, 62, 63, 68] σ α σ120504 α120494 := qFr_t hF120496 hG120506 (by decide) (by decide)
          show qr_W (qe L xs vb) (d + 4) qx_e128 _ (49, _, [], qw σ120504 α120494 κ ρ, 0, 0)
          refine qr_iconst 50 rfl rfl ?_
          refine qr_istore _ 52 rfl (by decide) rfl rfl ?_
          have hL133791 : ∀ (n : Nat) (ls : qm_L) (u133785 : Int) (α133787 : Nat → Nat → Int), 6 - u133785 < (n : Int) → qm_get ls 0 = some (.ref 64) → qm_get ls 1 = some (.int (qz x1)) → qm_get ls 2 = some (.int (qz x2)) → qm_get ls 4 = some (.int (qz u120492)) → qm_get ls 5 = some (.int (qz u133785)) → (0 ≤ u133785 ∧ u133785 ≤ 6) → qI σ120504 α133787 κ ρ → qFr [(58, 11), (58, 12), (64, 7)] [60, 61, 62, 63, 68] σ α σ120504 α133787 → qr_W (qe L xs vb) (d + 4) qx_e128 (fun r w' => ∃ σ' α', w' = qw σ' α' κ ρ ∧ qI σ' α' κ ρ ∧ qFr [(58, 11), (58, 12), (64, 7)] [60, 61, 62, 63, 68] σ α σ' α' ∧ r = none) (52, ls, [], qw σ120504 α133787 κ ρ, 0, 0) := by
            intro n
            induction n with
            | zero => intro ls u133785 α133787 hm g133780 g133781 g133782 g133783 g133784 hf133790 hI133788 hF133789; exact False.elim (by omega)
            | succ n ih133792 =>
              intro ls u133785 α133787 hm g133780 g133781 g133782 g133783 g133784 hf133790 hI133788 hF133789
              refine qr_iload 54 rfl g133784 rfl ?_
              refine qr_aload_n 55 rfl g133780 rfl ?_
              refine qr_get 58 rfl rfl rfl (by decide) rfl ?_
              refine qy_v (σ 64 2) ((hG120506.1 64 2 (by decide)).trans ((hk120497).trans rfl)) ?_
              refine qr_icmp_ge 133 61 rfl rfl rfl (qrg hf133790 (by decide) (by decide)) (qrg hz64_2 (by decide) (by decide)) (fun h134679 => ?_) (fun h134679 => ?_)
              · skip
                refine qr_iinc _ 136 rfl g133783 (by decide) rfl rfl ?_
                refine qr_goto 27 rfl rfl ?_
                exact ih120501 _ (u120492 + 1) σ120504 α133787 (by omega) (qm_gk g133780 (by decide) (Or.inl (by decide))) (qm_gk g133781 (by decide) (Or.inl (by decide))) (qm_gk g133782 (by decide) (Or.inl (by decide))) (qm_ge _ _ _) (by omega) hI133788 hF133789 ((hG120506.1 64 2 (by decide)).trans ((hk120497).trans rfl)) ((hG120506.1 64 7 (by decide)).trans ((hk120498).trans rfl))
              · skip
                refine qr_iconst 62 rfl rfl ?_
                refine qr_istore _ 64 rfl (by decide) rfl rfl ?_
                have hL135474 : ∀ (n : Nat) (ls : qm_L) (u135468 : Int) (α135470 : Nat → Nat → Int), 6 - u135468 < (n : Int) → qm_get ls 0 = some (.ref 64) → qm_get ls 1 = some (.int (qz x1)) → qm_get ls 2 = some (.int (qz x2)) → qm_get ls 4 = some (.int (qz u120492)) → qm_get ls 5 = some (.int (qz u133785)) → qm_get ls 6 = some (.int (qz u135468)) → (0 ≤ u135468 ∧ u135468 ≤ 6) → qI σ120504 α135470 κ ρ → qFr [(58, 11), (58, 12), (64, 7)] [60, 61, 62, 63, 68] σ α σ120504 α135470 → qr_W (qe L xs vb) (d + 4) qx_e128 (fun r w' => ∃ σ' α', w' = qw σ' α' κ ρ ∧ qI σ' α' κ ρ ∧ qFr [(58, 11), (58, 12), (64, 7)] [60, 61, 62, 63, 68] σ α σ' α' ∧ r = none) (64, ls, [], qw σ120504 α135470 κ ρ, 0, 0) := by
                  intro n
                  induction n with
                  | zero => intro ls u135468 α135470 hm g135462 g135463 g135464 g135465 g135466 g135467 hf135473 hI135471 hF135472; exact False.elim (by omega)
                  | succ n ih135475 =>
                    intro ls u135468 α135470 hm g135462 g135463 g135464 g135465 g135466 g135467 hf135473 hI135471 hF135472
                    refine qr_iload 66 rfl g135467 rfl ?_
                    refine qr_aload_n 67 rfl g135462 rfl ?_
                    refine qr_get 70 rfl rfl rfl (by decide) rfl ?_
                    refine qy_v (σ 64 2) ((hG120506.1 64 2 (by decide)).trans ((hk120497).trans rfl)) ?_
                    refine qr_icmp_ge 127 73 rfl rfl rfl (qrg hf135473 (by decide) (by decide)) (qrg hz64_2 (by decide) (by decide)) (fun h135526 => ?_) (fun h135526 => ?_)
                    · skip
                      refine qr_iinc _ 130 rfl g135466 (by decide) rfl rfl ?_
                      refine qr_goto 52 rfl rfl ?_
                      exact ih133792 _ (u133785 + 1) α135470 (by omega) (qm_gk g135462 (by decide) (Or.inl (by decide))) (qm_gk g135463 (by decide) (Or.inl (by decide))) (qm_gk g135464 (by decide) (Or.inl (by decide))) (qm_gk g135465 (by decide) (Or.inr rfl)) (qm_ge _ _ _) (by omega) hI135471 hF135472
                    · skip
                      refine qr_iload 75 rfl g135466 rfl ?_
                      refine qr_iload 77 rfl g135467 rfl ?_
                      have hJ135557 : ∀ (ls : qm_L) (α135554 : Nat → Nat → Int), qm_get ls 0 = some (.ref 64) → qm_get ls 1 = some (.int (qz x1)) → qm_get ls 2 = some (.int (qz x2)) → qm_get ls 4 = some (.int (qz u120492)) → qm_get ls 5 = some (.int (qz u133785)) → qm_get ls 6 = some (.int (qz u135468)) → qI σ120504 α135554 κ ρ → qFr [(58, 11), (58, 12), (64, 7)] [60, 61, 62, 63, 68] σ α σ120504 α135554 → qr_W (qe L xs vb) (d + 4) qx_e128 (fun r w' => ∃ σ' α', w' = qw σ' α' κ ρ ∧ qI σ' α' κ ρ ∧ qFr [(58, 11), (58, 12), (64, 7)] [60, 61, 62, 63, 68] σ α σ' α' ∧ r = none) (121, ls, [], qw σ120504 α135554 κ ρ, 0, 0) := by
                        intro ls α135554 g135547 g135548 g135549 g135550 g135551 g135552 hI135555 hF135556
                        refine qr_iinc _ 124 rfl g135552 (by decide) rfl rfl ?_
                        refine qr_goto 64 rfl rfl ?_
                        exact ih135475 _ (u135468 + 1) α135554 (by omega) (qm_gk g135547 (by decide) (Or.inl (by decide))) (qm_gk g135548 (by decide) (Or.inl (by decide))) (qm_gk g135549 (by decide) (Or.inl (by decide))) (qm_gk g135550 (by decide) (Or.inl (by decide))) (qm_gk g135551 (by decide) (Or.inr rfl)) (qm_ge _ _ _) (by omega) hI135555 hF135556
                      refine qr_icmp_eq 121 80 rfl rfl rfl (qrg hf133790 (by decide) (by decide)) (qrg hf135473 (by decide) (by decide)) (fun h135558 => ?_) (fun h135558 => ?_)
                      · skip
                        exact hJ135557 _ α135470 g135462 g135463 g135464 g135465 g135466 g135467 hI135471 hF135472
                      · skip
                        refine qr_aload_n 81 rfl g135462 rfl ?_
                        refine qr_aload_n 82 rfl g135462 rfl ?_
                        refine qr_get 85 rfl rfl rfl (by decide) rfl ?_
                        refine qr_iload 87 rfl g135466 rfl ?_
                        refine qr_iaload 88 rfl rfl (qrgi hf133790 (by decide) (by decide)) (by decide) rfl ?_
                        refine qr_topI (fun v135559 hv135559 => ?_)
                        have hs135560 : 0 ≤ v135559 ∧ v135559 ≤ 31 := by rw [hv135559]; exact hI135471.2.1 65 _ (show _ < 12 from qrgt hf133790 (by decide) (by decide))
                        have hs135561 : σ120504 64 2 = (σ 64 2) := (hG120506.1 64 2 (by decide)).trans ((hk120497).trans rfl)
                        refine qr_aload_n 89 rfl g135462 rfl ?_
                        refine qr_get 92 rfl rfl rfl (by decide) rfl ?_
                        refine qr_iload 94 rfl g135467 rfl ?_
                        refine qr_iaload 95 rfl rfl (qrgi hf135473 (by decide) (by decide)) (by decide) rfl ?_
                        refine qr_topI (fun v135562 hv135562 => ?_)
                        have hs135563 : 0 ≤ v135562 ∧ v135562 ≤ 31 := by rw [hv135562]; exact hI135471.2.1 65 _ (show _ < 12 from qrgt hf135473 (by decide) (by decide))
                        have hs135564 : σ120504 64 2 = (σ 64 2) := (hG120506.1 64 2 (by decide)).trans ((hk120497).trans rfl)
                        have hs135565 := qI_li hI135471 (u133785) (u135468)
                        refine qr_callN 98 rfl rfl rfl (sf_129_64 (d := d + 0) hI135471 hs135560 hs135563 (by omega)) ?_
                        rintro _ _ ⟨α135567, rfl, hI135568, hG135569, v135566, rfl, hv135566⟩
                        have hF135570 : qFr [(58, 11), (58, 12), (64, 7)] [60, 61, 62, 63, 68] σ α σ120504 α135567 := qFr_t hF135472 hG135569 (by decide) (by decide)
                        show qr_W (qe L xs vb) (d + 4) qx_e128 _ (98, _, [.int (qz v135566)], qw σ120504 α135567 κ ρ, 0, 0)
                        refine qr_if_eq 121 101 rfl rfl rfl (qrg hv135566 (by decide) (by decide)) (fun h135571 => ?_) (fun h135571 => ?_)
                        · skip
                          exact hJ135557 _ α135567 g135462 g135463 g135464 g135465 g135466 g135467 hI135568 hF135570
                        · skip
                          refine qr_aload_n 102 rfl g135462 rfl ?_
                          refine qr_get 105 rfl rfl rfl (by decide) rfl ?_
                          refine qr_iload 107 rfl g135465 rfl ?_
                          refine qr_bipush 109 rfl (by decide) rfl ?_
                          refine qr_imul 110 rfl rfl ?_
                          refine qr_iload 112 rfl g135466 rfl ?_
                          refine qr_iadd 113 rfl rfl ?_
                          refine qr_dup2 114 rfl rfl rfl rfl ?_
                          refine qr_iaload 115 rfl rfl (by omega) (by decide) rfl ?_
                          refine qr_topI (fun v135572 hv135572 => ?_)
                          have hs135573 : (-2147483648) ≤ v135572 ∧ v135572 ≤ 2147483647 := by rw [hv135572]; exact hI135568.2.1 68 _ (show _ < 36 by omega)
                          refine qr_iconst 116 rfl rfl ?_
                          refine qr_iload 118 rfl g135467 rfl ?_
                          refine qr_ishl 119 rfl rfl ?_
                          refine qy_shl1 (N := 5) (by omega) (fun v135574 hv135574 => ?_)
                          refine qr_ior 120 rfl rfl ?_
                          refine qy_can (fun v135575 hv135575 => ?_)
                          refine qr_iastore 121 rfl (by decide) rfl (by omega) (by decide) rfl ?_
                          refine qy_wA (qw_r α135567 68 (qzu (α135567 68) (((u120492 * 6) + u133785) : Int).toNat v135575)) rfl (fun α135576 e135577 => ?_)
                          have hI135578 : qI σ120504 α135576 κ ρ := by rw [e135577]; exact qI_r hI135568 68 _ rfl (show (-2147483648) ≤ v135575 ∧ v135575 ≤ 2147483647 by omega)
                          have hF135579 : qFr [(58, 11), (58, 12), (64, 7)] [60, 61, 62, 63, 68] σ α σ120504 α135576 := by rw [e135577]; exact qFr_r hF135570 68 _ (by decide)
                          exact hJ135557 _ α135576 g135462 g135463 g135464 g135465 g135466 g135467 hI135578 hF135579
                exact hL135474 ((6 - 0 + 1 : Int)).toNat _ 0 α133787 (by omega) (qm_gk g133780 (by decide) (Or.inl (by decide))) (qm_gk g133781 (by decide) (Or.inl (by decide))) (qm_gk g133782 (by decide) (Or.inl (by decide))) (qm_gk g133783 (by decide) (Or.inl (by decide))) (qm_gk g133784 (by decide) (Or.inr rfl)) (qm_ge _ _ _) (by decide) hI133788 hF133789
          exact hL133791 ((6 - 0 + 1 : Int)).toNat _ 0 α120494 (by omega) (qm_gk g120488 (by decide) (Or.inl (by decide))) (qm_gk g120489 (by decide) (Or.inl (by decide))) (qm_gk g120490 (by decide) (Or.inl (by decide))) (qm_gk g120491 (by decide) (Or.inr rfl)) (qm_ge _ _ _) (by decide) hI120505 hF120507
    exact hL120500 ((6 - 0 + 1 : Int)).toNat _ 0 σ8 α12 (by omega) (qm_gk g2 (by decide) (Or.inl (by decide))) (qm_gk g3 (by decide) (Or.inl (by decide))) (qm_gk g4 (by decide) (Or.inl (by decide))) (qm_ge _ _ _) (by decide) hI13 hF15 ((congrFun (congrFun e9 64) 2).trans rfl) ((congrFun (congrFun e9 64) 7).trans rfl)
  refine qr_icmp_ge 10 6 rfl rfl rfl (qrg r2 (by decide) (by decide)) (by decide) (fun h135580 => ?_) (fun h135580 => ?_)
  · skip
    refine qr_iload_n 11 rfl rfl rfl ?_
    refine qr_iload_n 12 rfl rfl rfl ?_
    refine qr_idiv 13 rfl (qrg r3 (by decide) (by decide)) (by omega) rfl ?_
    refine qy_can (fun v135581 hv135581 => ?_)
    exact hJ7 _ v135581 rfl rfl rfl hv135581
  · skip
    refine qr_iconst 7 rfl rfl ?_
    refine qr_goto 13 rfl rfl ?_
    exact hJ7 _ 0 rfl rfl rfl (by decide)

set_option maxHeartbeats 4000000 in
set_option maxRecDepth 20000 in
/-- OneRoof$Guests.meetsEarlier -/
theorem sf_132_64 {L : Nat} {xs : Nat → Int} {vb : Bool} {d : Nat} {σ α : Nat → Nat → Int} {κ : Nat → Option Nat} {ρ : Nat} {x1 : Int} {x2 : Int} (hI : qI σ α κ ρ) (r1 : 0 ≤ x1 ∧ x1 ≤ 5) (r2 : 0 ≤ x2 ∧ x2 ≤ 5) : qm_T (qe L xs vb) (d + 2) 132 [.ref 64, .int (qz x1), .int (qz x2)] (qw σ α κ ρ) (fun r w' => w' = qw σ α κ ρ ∧ ∃ v : Int, r = some (.int (qz v)) ∧ (0 ≤ v ∧ v ≤ 1)) := by
  refine qr_start (d := d + 1) qv_e132 (Nat.le_of_ble_eq_true rfl) ?_
  show qr_W (qe L xs vb) (d + 1) qx_e132 _ (0, [(0, .ref 64), (1, .int (qz x1)), (2, .int (qz x2))], [], _, 0, 0)
  refine qr_iconst 1 rfl rfl ?_
  refine qr_iload_n 2 rfl rfl rfl ?_
  refine qr_aload_n 3 rfl rfl rfl ?_
  refine qr_get 6 rfl rfl rfl (by decide) rfl ?_
  have hs1 : (-2147483648) ≤ σ 64 7 ∧ σ 64 7 ≤ 2147483647 := hI.1 64 7
  refine qr_isub 7 rfl rfl ?_
  refine qy_can (fun v2 hv2 => ?_)
  refine qr_callN 10 rfl rfl rfl (sf_30 (d := d + 0) hI (by decide) hv2) ?_
  rintro _ _ ⟨rfl, v3, rfl, hv3, hp4⟩
  show qr_W (qe L xs vb) (d + 1) qx_e132 _ (10, _, [.int (qz v3)], qw σ α κ ρ, 0, 0)
  refine qr_istore_n _ 11 rfl (by decide) rfl rfl ?_
  have hL47 : ∀ (n : Nat) (ls : qm_L) (u45 : Int), ((x1 - u45).toNat : Int) < (n : Int) → qm_get ls 0 = some (.ref 64) → qm_get ls 1 = some (.int (qz x1)) → qm_get ls 2 = some (.int (qz x2)) → qm_get ls 3 = some (.int (qz u45)) → (0 ≤ u45 ∧ u45 ≤ 2147483647) → qr_W (qe L xs vb) (d + 1) qx_e132 (fun r w' => w' = qw σ α κ ρ ∧ ∃ v : Int, r = some (.int (qz v)) ∧ (0 ≤ v ∧ v ≤ 1)) (11, ls, [], qw σ α κ ρ, 0, 0) := by
    intro n
    induction n with
    | zero => intro ls u45 hm g41 g42 g43 g44 hf46; exact False.elim (by omega)
    | succ n ih48 =>
      intro ls u45 hm g41 g42 g43 g44 hf46
      refine qr_iload_n 12 rfl g44 rfl ?_
      refine qr_iload_n 13 rfl g42 rfl ?_
      refine qr_icmp_ge 48 16 rfl rfl rfl (qrg hf46 (by decide) (by decide)) (qrg r1 (by decide) (by decide)) (fun h49 => ?_) (fun h49 => ?_)
      · skip
        refine qr_iconst 49 rfl rfl ?_
        refine qr_retZ rfl rfl (Or.inl rfl) (by decide) (by decide) ?_
        exact ⟨rfl, 0, rfl, (by decide)⟩
      · skip
        refine qr_aload_n 17 rfl g41 rfl ?_
        refine qr_get 20 rfl rfl rfl (by decide) rfl ?_
        refine qr_iload_n 21 rfl g42 rfl ?_
        refine qr_bipush 23 rfl (by decide) rfl ?_
        refine qr_imul 24 rfl rfl ?_
        refine qr_iload_n 25 rfl g43 rfl ?_
        refine qr_iadd 26 rfl rfl ?_
        refine qr_iaload 27 rfl rfl (by omega) (by decide) rfl ?_
        refine qr_topI (fun v50 hv50 => ?_)
        have hs51 : (-2147483648) ≤ v50 ∧ v50 ≤ 2147483647 := by rw [hv50]; exact hI.2.1 68 _ (show _ < 36 by omega)
        refine qr_i2l 28 rfl hs51 rfl ?_
        refine qr_aload_n 29 rfl g41 rfl ?_
        refine qr_get 32 rfl rfl rfl (by decide) rfl ?_
        refine qr_iload_n 33 rfl g44 rfl ?_
        refine qr_iaload 34 rfl rfl (by omega) (by decide) rfl ?_
        refine qr_topI (fun v52 hv52 => ?_)
        have hs53 : 0 ≤ v52 ∧ v52 ≤ 11 := by rw [hv52]; exact hI.2.1 69 _ (show _ < 6 by omega)
        refine qr_callN 37 rfl rfl rfl (sf_50 (d := d + 0) hI (qrg hs51 (by decide) (by decide)) (qrg hs53 (by decide) (by decide))) ?_
        rintro _ _ ⟨rfl, v54, rfl, hv54⟩
        show qr_W (qe L xs vb) (d + 1) qx_e132 _ (37, _, [.int (qz v54)], qw σ α κ ρ, 0, 0)
        refine qr_if_eq 42 40 rfl rfl rfl (qrg hv54 (by decide) (by decide)) (fun h55 => ?_) (fun h55 => ?_)
        · skip
          refine qr_iinc _ 45 rfl g44 (by decide) rfl rfl ?_
          refine qr_goto 11 rfl rfl ?_
          exact ih48 _ (u45 + 1) (by omega) (qm_gk g41 (by decide) (Or.inl (by decide))) (qm_gk g42 (by decide) (Or.inl (by decide))) (qm_gk g43 (by decide) (Or.inr rfl)) (qm_ge _ _ _) (by omega)
        · skip
          refine qr_iconst 41 rfl rfl ?_
          refine qr_retZ rfl rfl (Or.inr rfl) (by decide) (by decide) ?_
          exact ⟨rfl, 1, rfl, (by decide)⟩
  exact hL47 ((((x1 - v3).toNat : Int) + 1 : Int)).toNat _ v3 (by omega) rfl rfl rfl rfl (by omega)

set_option maxHeartbeats 4000000 in
set_option maxRecDepth 20000 in
/-- OneRoof$Telling.land -/
theorem sf_135_70 {L : Nat} {xs : Nat → Int} {vb : Bool} {d : Nat} {σ α : Nat → Nat → Int} {κ : Nat → Option Nat} {ρ : Nat} {x1 : Int} {x2 : Int} (hI : qI σ α κ ρ) (r1 : 0 ≤ x1 ∧ x1 ≤ 31) (r2 : 0 ≤ x2 ∧ x2 ≤ 31) (p0 : ¬ x1 = x2) : qm_T (qe L xs vb) (d + 4) 135 [.ref 70, .int (qz x1), .int (qz x2)] (qw σ α κ ρ) (fun r w' => ∃ σ' α', w' = qw σ' α' κ ρ ∧ qI σ' α' κ ρ ∧ qFr [(58, 10), (70, 2), (70, 3), (70, 5), (70, 6)] [62, 63, 71, 72] σ α σ' α' ∧ r = none) := by
  refine qr_start (d := d + 3) qv_e135 (Nat.le_of_ble_eq_true rfl) ?_
  show qr_W (qe L xs vb) (d + 3) qx_e135 _ (0, [(0, .ref 70), (1, .int (qz x1)), (2, .int (qz x2))], [], _, 0, 0)
  have hF0 := qFr_rf [(58, 10), (70, 2), (70, 3), (70, 5), (70, 6)] [62, 63, 71, 72] σ α
  refine qr_aload_n 1 rfl rfl rfl ?_
  refine qr_get 4 rfl rfl rfl (by decide) rfl ?_
  have hs1 : 0 ≤ σ 70 2 ∧ σ 70 2 ≤ 31 := hI.1 70 2
  refine qr_aload_n 5 rfl rfl rfl ?_
  refine qr_get 8 rfl rfl rfl (by decide) rfl ?_
  refine qr_alen 9 rfl rfl (by first | exact Or.inl (by decide) | exact Or.inr (Or.inl rfl) | exact Or.inr (Or.inr (Or.inl rfl)) | exact Or.inr (Or.inr (Or.inr (Or.inl rfl)))) rfl ?_
  refine qy_v 31 rfl ?_
  refine qr_icmp_lt 13 12 rfl rfl rfl (qrg hs1 (by decide) (by decide)) (by decide) (fun h2 => ?_) (fun h2 => ?_)
  · skip
    refine qr_aload_n 14 rfl rfl rfl ?_
    refine qr_get 17 rfl rfl rfl (by decide) rfl ?_
    refine qr_aload_n 18 rfl rfl rfl ?_
    refine qr_dup 19 rfl rfl rfl ?_
    refine qr_get 22 rfl rfl rfl (by decide) rfl ?_
    refine qr_dup_x1 23 rfl rfl rfl rfl ?_
    refine qr_iconst 24 rfl rfl ?_
    refine qr_iadd 25 rfl rfl ?_
    refine qr_put 28 rfl (by decide) rfl (Nat.le_of_ble_eq_true rfl) (Nat.le_of_ble_eq_true rfl) (Or.inl rfl) (qr_fitI rfl _) rfl ?_
    refine qy_wS (qw_s σ 70 2 ((σ 70 2) + 1)) rfl (fun σ3 e4 => ?_)
    have hI5 : qI σ3 α κ ρ := by rw [e4]; exact qI_s hI 70 2 rfl (show 0 ≤ ((σ 70 2) + 1) ∧ ((σ 70 2) + 1) ≤ 31 by omega)
    have hF6 : qFr [(58, 10), (70, 2), (70, 3), (70, 5), (70, 6)] [62, 63, 71, 72] σ α σ3 α := by rw [e4]; exact qFr_s hF0 70 2 _ (by decide)
    refine qr_bipush 30 rfl (by decide) rfl ?_
    refine qr_iload_n 31 rfl rfl rfl ?_
    refine qr_imul 32 rfl rfl ?_
    refine qr_iload_n 33 rfl rfl rfl ?_
    refine qr_iadd 34 rfl rfl ?_
    refine qr_iastore 35 rfl (by decide) rfl (by omega) (by decide) rfl ?_
    refine qy_wA (qw_r α 71 (qzu (α 71) ((σ 70 2) : Int).toNat ((100 * x1) + x2))) rfl (fun α7 e8 => ?_)
    have hI9 : qI σ3 α7 κ ρ := by rw [e8]; exact qI_r71 hI5 71 _ (by decide) (show 0 ≤ ((100 * x1) + x2) ∧ ((100 * x1) + x2) ≤ 3131 by omega) (by omega)
    have hF10 : qFr [(58, 10), (70, 2), (70, 3), (70, 5), (70, 6)] [62, 63, 71, 72] σ α σ3 α7 := by rw [e8]; exact qFr_r hF6 71 _ (by decide)
    refine qr_aload_n 36 rfl rfl rfl ?_
    refine qr_dup 37 rfl rfl rfl ?_
    refine qr_get 40 rfl rfl rfl (by decide) rfl ?_
    have hs11 : (-9223372036854775808) ≤ σ3 70 6 ∧ σ3 70 6 ≤ 9223372036854775807 := hI9.1 70 6
    refine qr_lconst 41 rfl rfl ?_
    refine qy_vl 1 rfl ?_
    refine qr_iload_n 42 rfl rfl rfl ?_
    refine qr_lshl 43 rfl rfl ?_
    refine qy_canl (fun v12 hv12 => ?_)
    refine qr_lor 44 rfl rfl ?_
    refine qy_canl (fun v13 hv13 => ?_)
    refine qr_put 47 rfl (by decide) rfl (Nat.le_of_ble_eq_true rfl) (Nat.le_of_ble_eq_true rfl) (Or.inl rfl) (qr_fitL rfl _) rfl ?_
    refine qy_wS (qw_s σ3 70 6 v13) rfl (fun σ14 e15 => ?_)
    have hI16 : qI σ14 α7 κ ρ := by rw [e15]; exact qI_s hI9 70 6 rfl (show (-9223372036854775808) ≤ v13 ∧ v13 ≤ 9223372036854775807 by omega)
    have hF17 : qFr [(58, 10), (70, 2), (70, 3), (70, 5), (70, 6)] [62, 63, 71, 72] σ α σ14 α7 := by rw [e15]; exact qFr_s hF10 70 6 _ (by decide)
    refine qr_aload_n 48 rfl rfl rfl ?_
    refine qr_dup 49 rfl rfl rfl ?_
    refine qr_get 52 rfl rfl rfl (by decide) rfl ?_
    have hs18 : (-9223372036854775808) ≤ σ14 70 3 ∧ σ14 70 3 ≤ 9223372036854775807 := hI16.1 70 3
    refine qr_lconst 53 rfl rfl ?_
    refine qy_vl 1 rfl ?_
    refine qr_iload_n 54 rfl rfl rfl ?_
    refine qr_lshl 55 rfl rfl ?_
    refine qy_canl (fun v19 hv19 => ?_)
    refine qr_ldc2 (-1) 58 rfl (by decide) rfl ?_
    refine qr_lxor 59 rfl rfl ?_
    refine qy_canl (fun v20 hv20 => ?_)
    refine qr_land 60 rfl rfl ?_
    refine qy_canl (fun v21 hv21 => ?_)
    refine qr_put 63 rfl (by decide) rfl (Nat.le_of_ble_eq_true rfl) (Nat.le_of_ble_eq_true rfl) (Or.inl rfl) (qr_fitL rfl _) rfl ?_
    refine qy_wS (qw_s σ14 70 3 v21) rfl (fun σ22 e23 => ?_)
    have hI24 : qI σ22 α7 κ ρ := by rw [e23]; exact qI_s hI16 70 3 rfl (show (-9223372036854775808) ≤ v21 ∧ v21 ≤ 9223372036854775807 by omega)
    have hF25 : qFr [(58, 10), (70, 2), (70, 3), (70, 5), (70, 6)] [62, 63, 71, 72] σ α σ22 α7 := by rw [e23]; exact qFr_s hF17 70 3 _ (by decide)
    refine qr_aload_n 64 rfl rfl rfl ?_
    refine qr_get 67 rfl rfl rfl (by decide) rfl ?_
    refine qr_iload_n 68 rfl rfl rfl ?_
    refine qr_iload_n 69 rfl rfl rfl ?_
    refine qr_callN 72 rfl rfl rfl (sf_94_58 (d := d + 0) hI24 r1 r2 (by omega)) ?_
    rintro _ _ ⟨α27, rfl, hI28, hG29, v26, rfl, hv26⟩
    have hF30 : qFr [(58, 10), (70, 2), (70, 3), (70, 5), (70, 6)] [62, 63, 71, 72] σ α σ22 α27 := qFr_t hF25 hG29 (by decide) (by decide)
    show qr_W (qe L xs vb) (d + 3) qx_e135 _ (72, _, [.long (ql v26)], qw σ22 α27 κ ρ, 0, 0)
    refine qr_aload_n 73 rfl rfl rfl ?_
    refine qr_get 76 rfl rfl rfl (by decide) rfl ?_
    refine qr_get 79 rfl rfl rfl (by decide) rfl ?_
    refine qr_iload_n 80 rfl rfl rfl ?_
    refine qr_callN 83 rfl rfl rfl (sf_136_34 (d := d + 1) hI28 (qrg r1 (by decide) (by decide))) ?_
    rintro _ _ ⟨rfl, v31, rfl, hv31⟩
    show qr_W (qe L xs vb) (d + 3) qx_e135 _ (83, _, [.long (ql v31), .long (ql v26)], qw σ22 α27 κ ρ, 0, 0)
    refine qr_land 84 rfl rfl ?_
    refine qy_canl (fun v32 hv32 => ?_)
    as_aux_lemma =>
      refine qr_lstore_n _ 85 rfl (by decide) rfl rfl ?_
      refine qr_iconst 86 rfl rfl ?_
      refine qr_istore _ 88 rfl (by decide) rfl rfl ?_
      have hL1717 : ∀ (n : Nat) (ls : qm_L) (u1708 : Int) (σ1709 α1710 : Nat → Nat → Int), 60 - u1708 < (n : Int) → qm_get ls 0 = some (.ref 70) → qm_get ls 3 = some (.long (ql v32)) → qm_get ls 5 = some (.int (qz u1708)) → (0 ≤ u1708 ∧ u1708 ≤ 60) → qI σ1709 α1710 κ ρ → qFr [(58, 10), (70, 2), (70, 3), (70, 5), (70, 6)] [62, 63, 71, 72] σ α σ1709 α1710 → σ1709 70 2 = ((σ 70 2) + 1) → σ1709 70 3 = v21 → σ1709 70 6 = v13 → qr_W (qe L xs vb) (d + 3) qx_e135 (fun r w' => ∃ σ' α', w' = qw σ' α' κ ρ ∧ qI σ' α' κ ρ ∧ qFr [(58, 10), (70, 2), (70, 3), (70, 5), (70, 6)] [62, 63, 71, 72] σ α σ' α' ∧ r = none) (88, ls, [], qw σ1709 α1710 κ ρ, 0, 0) := by
        intro n
        induction n with
        | zero => intro ls u1708 σ1709 α1710 hm g1705 g1706 g1707 hf1716 hI1711 hF1712 hk1713 hk1714 hk1715; exact False.elim (by omega)
        | succ n ih1718 =>
          intro ls u1708 σ1709 α1710 hm g1705 g1706 g1707 hf1716 hI1711 hF1712 hk1713 hk1714 hk1715
          refine qr_iload 90 rfl g1707 rfl ?_
          refine qr_bipush 92 rfl (by decide) rfl ?_
          have hJ1756 : ∀ (ls : qm_L) (σ1749 α1750 : Nat → Nat → Int), qm_get ls 0 = some (.ref 70) → qm_get ls 3 = some (.long (ql v32)) → qI σ1749 α1750 κ ρ → qFr [(58, 10), (70, 2), (70, 3), (70, 5), (70, 6)] [62, 63, 71, 72] σ α σ1749 α1750 → σ1749 70 2 = ((σ 70 2) + 1) → σ1749 70 3 = v21 → σ1749 70 6 = v13 → qr_W (qe L xs vb) (d + 3) qx_e135 (fun r w' => ∃ σ' α', w' = qw σ' α' κ ρ ∧ qI σ' α' κ ρ ∧ qFr [(58, 10), (70, 2), (70, 3), (70, 5), (70, 6)] [62, 63, 71, 72] σ α σ' α' ∧ r = none) (140, ls, [], qw σ1749 α1750 κ ρ, 0, 0) := by
            intro ls σ1749 α1750 g1747 g1748 hI1751 hF1752 hk1753 hk1754 hk1755
            refine qr_aload_n 141 rfl g1747 rfl ?_
            refine qr_get 144 rfl rfl rfl (by decide) rfl ?_
            refine qr_dup 145 rfl rfl rfl ?_
            refine qr_get 148 rfl rfl rfl (by decide) rfl ?_
            have hs1757 : (-9223372036854775808) ≤ σ1749 58 10 ∧ σ1749 58 10 ≤ 9223372036854775807 := hI1751.1 58 10
            refine qr_lload_n 149 rfl g1748 rfl ?_
            refine qr_lor 150 rfl rfl ?_
            refine qy_canl (fun v1758 hv1758 => ?_)
            refine qr_put 153 rfl (by decide) rfl (Nat.le_of_ble_eq_true rfl) (Nat.le_of_ble_eq_true rfl) (Or.inl rfl) (qr_fitL rfl _) rfl ?_
            refine qy_wS (qw_s σ1749 58 10 v1758) rfl (fun σ1759 e1760 => ?_)
            have hI1761 : qI σ1759 α1750 κ ρ := by rw [e1760]; exact qI_s hI1751 58 10 rfl (show (-9223372036854775808) ≤ v1758 ∧ v1758 ≤ 9223372036854775807 by omega)
            have hF1762 : qFr [(58, 10), (70, 2), (70, 3), (70, 5), (70, 6)] [62, 63, 71, 72] σ α σ1759 α1750 := by rw [e1760]; exact qFr_s hF1752 58 10 _ (by decide)
            refine qr_retV rfl rfl (by decide) (by decide) ?_
            exact ⟨_, _, rfl, hI1761, hF1762, rfl⟩
          refine qr_icmp_ge 140 95 rfl rfl rfl (qrg hf1716 (by decide) (by decide)) (by decide) (fun h1763 => ?_) (fun h1763 => ?_)
          · skip
            exact hJ1756 _ σ1709 α1710 g1705 g1706 hI1711 hF1712 ((hk1713).trans rfl) ((hk1714).trans rfl) ((hk1715).trans rfl)
          · skip
            refine qr_aload_n 96 rfl g1705 rfl ?_
            refine qr_get 99 rfl rfl rfl (by decide) rfl ?_
            have hs1764 : 0 ≤ σ1709 70 5 ∧ σ1709 70 5 ≤ 60 := hI1711.1 70 5
            refine qr_aload_n 100 rfl g1705 rfl ?_
            refine qr_get 103 rfl rfl rfl (by decide) rfl ?_
            refine qr_alen 104 rfl rfl (by first | exact Or.inl (by decide) | exact Or.inr (Or.inl rfl) | exact Or.inr (Or.inr (Or.inl rfl)) | exact Or.inr (Or.inr (Or.inr (Or.inl rfl)))) rfl ?_
            refine qy_v 60 rfl ?_
            refine qr_icmp_ge 140 107 rfl rfl rfl (qrg hs1764 (by decide) (by decide)) (by decide) (fun h1765 => ?_) (fun h1765 => ?_)
            · skip
              exact hJ1756 _ σ1709 α1710 g1705 g1706 hI1711 hF1712 ((hk1713).trans rfl) ((hk1714).trans rfl) ((hk1715).trans rfl)
            · skip
              refine qr_lload_n 108 rfl g1706 rfl ?_
              refine qr_iload 110 rfl g1707 rfl ?_
              refine qr_callN 113 rfl rfl rfl (sf_50 (d := d + 2) hI1711 hv32 (qrg hf1716 (by decide) (by decide))) ?_
              rintro _ _ ⟨rfl, v1766, rfl, hv1766⟩
              show qr_W (qe L xs vb) (d + 3) qx_e135 _ (113, _, [.int (qz v1766)], qw σ1709 α1710 κ ρ, 0, 0)
              have hJ1785 : ∀ (ls : qm_L) (σ1778 α1779 : Nat → Nat → Int), qm_get ls 0 = some (.ref 70) → qm_get ls 3 = some (.long (ql v32)) → qm_get ls 5 = some (.int (qz u1708)) → qI σ1778 α1779 κ ρ → qFr [(58, 10), (70, 2), (70, 3), (70, 5), (70, 6)] [62, 63, 71, 72] σ α σ1778 α1779 → σ1778 70 2 = ((σ 70 2) + 1) → σ1778 70 3 = v21 → σ1778 70 6 = v13 → qr_W (qe L xs vb) (d + 3) qx_e135 (fun r w' => ∃ σ' α', w' = qw σ' α' κ ρ ∧ qI σ' α' κ ρ ∧ qFr [(58, 10), (70, 2), (70, 3), (70, 5), (70, 6)] [62, 63, 71, 72] σ α σ' α' ∧ r = none) (134, ls, [], qw σ1778 α1779 κ ρ, 0, 0) := by
                intro ls σ1778 α1779 g1775 g1776 g1777 hI1780 hF1781 hk1782 hk1783 hk1784
                refine qr_iinc _ 137 rfl g1777 (by decide) rfl rfl ?_
                refine qr_goto 88 rfl rfl ?_
                exact ih1718 _ (u1708 + 1) σ1778 α1779 (by omega) (qm_gk g1775 (by decide) (Or.inl (by decide))) (qm_gk g1776 (by decide) (Or.inl (by decide))) (qm_ge _ _ _) (by omega) hI1780 hF1781 ((hk1782).trans rfl) ((hk1783).trans rfl) ((hk1784).trans rfl)
              refine qr_if_eq 134 116 rfl rfl rfl (qrg hv1766 (by decide) (by decide)) (fun h1786 => ?_) (fun h1786 => ?_)
              · skip
                exact hJ1785 _ σ1709 α1710 g1705 g1706 g1707 hI1711 hF1712 ((hk1713).trans rfl) ((hk1714).trans rfl) ((hk1715).trans rfl)
              · skip
                refine qr_aload_n 117 rfl g1705 rfl ?_
                refine qr_get 120 rfl rfl rfl (by decide) rfl ?_
                refine qr_aload_n 121 rfl g1705 rfl ?_
                refine qr_dup 122 rfl rfl rfl ?_
                refine qr_get 125 rfl rfl rfl (by decide) rfl ?_
                refine qr_dup_x1 126 rfl rfl rfl rfl ?_
                refine qr_iconst 127 rfl rfl ?_
                refine qr_iadd 128 rfl rfl ?_
                refine qr_put 131 rfl (by decide) rfl (Nat.le_of_ble_eq_true rfl) (Nat.le_of_ble_eq_true rfl) (Or.inl rfl) (qr_fitI rfl _) rfl ?_
                refine qy_wS (qw_s σ1709 70 5 ((σ1709 70 5) + 1)) rfl (fun σ1787 e1788 => ?_)
                have hI1789 : qI σ1787 α1710 κ ρ := by rw [e1788]; exact qI_s hI1711 70 5 rfl (show 0 ≤ ((σ1709 70 5) + 1) ∧ ((σ1709 70 5) + 1) ≤ 60 by omega)
                have hF1790 : qFr [(58, 10), (70, 2), (70, 3), (70, 5), (70, 6)] [62, 63, 71, 72] σ α σ1787 α1710 := by rw [e1788]; exact qFr_s hF1712 70 5 _ (by decide)
                refine qr_iload 133 rfl g1707 rfl ?_
                refine qr_iastore 134 rfl (by decide) rfl (by omega) (by decide) rfl ?_
                refine qy_wA (qw_r α1710 72 (qzu (α1710 72) ((σ1709 70 5) : Int).toNat u1708)) rfl (fun α1791 e1792 => ?_)
                have hI1793 : qI σ1787 α1791 κ ρ := by rw [e1792]; exact qI_r hI1789 72 _ rfl (show 0 ≤ u1708 ∧ u1708 ≤ 59 by omega)
                have hF1794 : qFr [(58, 10), (70, 2), (70, 3), (70, 5), (70, 6)] [62, 63, 71, 72] σ α σ1787 α1791 := by rw [e1792]; exact qFr_r hF1790 72 _ (by decide)
                exact hJ1785 _ σ1787 α1791 g1705 g1706 g1707 hI1793 hF1794 ((congrFun (congrFun e1788 70) 2).trans ((hk1713).trans rfl)) ((congrFun (congrFun e1788 70) 3).trans ((hk1714).trans rfl)) ((congrFun (congrFun e1788 70) 6).trans ((hk1715).trans rfl))
      exact hL1717 ((60 - 0 + 1 : Int)).toNat _ 0 σ22 α27 (by omega) rfl rfl rfl (by decide) hI28 hF30 ((congrFun (congrFun e23 70) 2).trans ((congrFun (congrFun e15 70) 2).trans ((congrFun (congrFun e4 70) 2).trans rfl))) ((congrFun (congrFun e23 70) 3).trans rfl) ((congrFun (congrFun e23 70) 6).trans ((congrFun (congrFun e15 70) 6).trans rfl))
  · skip
    refine qr_retV rfl rfl (by decide) (by decide) ?_
    exact ⟨_, _, rfl, hI, hF0, rfl⟩

set_option maxHeartbeats 4000000 in
set_option maxRecDepth 20000 in
/-- OneRoof$Telling.firstHelp -/
theorem sf_137_70 {L : Nat} {xs : Nat → Int} {vb : Bool} {d : Nat} {σ α : Nat → Nat → Int} {κ : Nat → Option Nat} {ρ : Nat}  (hI : qI σ α κ ρ)  : qm_T (qe L xs vb) (d + 5) 137 [.ref 70] (qw σ α κ ρ) (fun r w' => ∃ α', w' = qw σ α' κ ρ ∧ qI σ α' κ ρ ∧ qFr [] [53, 57, 59, 60, 61, 62, 63, 85] σ α σ α' ∧ ∃ v : Int, r = some (.int (qz v)) ∧ ((-1) ≤ v ∧ v ≤ 3131) ∧ (v = -1 ∨ (0 ≤ v ∧ v / 100 ≤ 31 ∧ v % 100 ≤ 31 ∧ ¬ v / 100 = v % 100))) := by
  refine qr_start (d := d + 4) qv_e137 (Nat.le_of_ble_eq_true rfl) ?_
  show qr_W (qe L xs vb) (d + 4) qx_e137 _ (0, [(0, .ref 70)], [], _, 0, 0)
  have hF0 := qFr_rf [] [53, 57, 59, 60, 61, 62, 63, 85] σ α
  refine qr_iconst 1 rfl rfl ?_
  refine qr_istore_n _ 2 rfl (by decide) rfl rfl ?_
  have hL59599 : ∀ (n : Nat) (ls : qm_L) (u59593 : Int) (α59595 : Nat → Nat → Int), 32 - u59593 < (n : Int) → qm_get ls 0 = some (.ref 70) → qm_get ls 1 = some (.int (qz u59593)) → (0 ≤ u59593 ∧ u59593 ≤ 32) → qI σ α59595 κ ρ → qFr [] [53, 57, 59, 60, 61, 62, 63, 85] σ α σ α59595 → qr_W (qe L xs vb) (d + 4) qx_e137 (fun r w' => ∃ α', w' = qw σ α' κ ρ ∧ qI σ α' κ ρ ∧ qFr [] [53, 57, 59, 60, 61, 62, 63, 85] σ α σ α' ∧ ∃ v : Int, r = some (.int (qz v)) ∧ ((-1) ≤ v ∧ v ≤ 3131) ∧ (v = -1 ∨ (0 ≤ v ∧ v / 100 ≤ 31 ∧ v % 100 ≤ 31 ∧ ¬ v / 100 = v % 100))) (2, ls, [], qw σ α59595 κ ρ, 0, 0) := by
    intro n
    induction n with
    | zero => intro ls u59593 α59595 hm g59591 g59592 hf59598 hI59596 hF59597; exact False.elim (by omega)
    | succ n ih59600 =>
      intro ls u59593 α59595 hm g59591 g59592 hf59598 hI59596 hF59597
      refine qr_iload_n 3 rfl g59592 rfl ?_
      refine qr_aload_n 4 rfl g59591 rfl ?_
      refine qr_get 7 rfl rfl rfl (by decide) rfl ?_
      refine qr_get 10 rfl rfl rfl (by decide) rfl ?_
      refine qr_get 13 rfl rfl rfl (by decide) rfl ?_
      have hs59601 : 0 ≤ σ 17 6 ∧ σ 17 6 ≤ 32 := hI59596.1 17 6
      refine qr_icmp_ge 144 16 rfl rfl rfl (qrg hf59598 (by decide) (by decide)) (qrg hs59601 (by decide) (by decide)) (fun h59602 => ?_) (fun h59602 => ?_)
      · skip
        refine qr_iconst 145 rfl rfl ?_
        refine qr_retI rfl rfl (by decide) (by decide) ?_
        exact ⟨_, rfl, hI59596, hF59597, (-1), rfl, (by decide), by omega⟩
      · skip
        refine qr_iconst 17 rfl rfl ?_
        refine qr_istore_n _ 18 rfl (by decide) rfl rfl ?_
        have hL63347 : ∀ (n : Nat) (ls : qm_L) (u63341 : Int) (α63343 : Nat → Nat → Int), 32 - u63341 < (n : Int) → qm_get ls 0 = some (.ref 70) → qm_get ls 1 = some (.int (qz u59593)) → qm_get ls 2 = some (.int (qz u63341)) → (0 ≤ u63341 ∧ u63341 ≤ 32) → qI σ α63343 κ ρ → qFr [] [53, 57, 59, 60, 61, 62, 63, 85] σ α σ α63343 → qr_W (qe L xs vb) (d + 4) qx_e137 (fun r w' => ∃ α', w' = qw σ α' κ ρ ∧ qI σ α' κ ρ ∧ qFr [] [53, 57, 59, 60, 61, 62, 63, 85] σ α σ α' ∧ ∃ v : Int, r = some (.int (qz v)) ∧ ((-1) ≤ v ∧ v ≤ 3131) ∧ (v = -1 ∨ (0 ≤ v ∧ v / 100 ≤ 31 ∧ v % 100 ≤ 31 ∧ ¬ v / 100 = v % 100))) (18, ls, [], qw σ α63343 κ ρ, 0, 0) := by
          intro n
          induction n with
          | zero => intro ls u63341 α63343 hm g63338 g63339 g63340 hf63346 hI63344 hF63345; exact False.elim (by omega)
          | succ n ih63348 =>
            intro ls u63341 α63343 hm g63338 g63339 g63340 hf63346 hI63344 hF63345
            refine qr_iload_n 19 rfl g63340 rfl ?_
            refine qr_aload_n 20 rfl g63338 rfl ?_
            refine qr_get 23 rfl rfl rfl (by decide) rfl ?_
            refine qr_get 26 rfl rfl rfl (by decide) rfl ?_
            refine qr_get 29 rfl rfl rfl (by decide) rfl ?_
            refine qr_icmp_ge 138 32 rfl rfl rfl (qrg hf63346 (by decide) (by decide)) (qrg hs59601 (by decide) (by decide)) (fun h63349 => ?_) (fun h63349 => ?_)
            · skip
              refine qr_iinc _ 141 rfl g63339 (by decide) rfl rfl ?_
              refine qr_goto 2 rfl rfl ?_
              exact ih59600 _ (u59593 + 1) α63343 (by omega) (qm_gk g63338 (by decide) (Or.inr rfl)) (qm_ge _ _ _) (by omega) hI63344 hF63345
            · skip
              refine qr_iload_n 33 rfl g63339 rfl ?_
              refine qr_iload_n 34 rfl g63340 rfl ?_
              refine qr_icmp_eq 132 37 rfl rfl rfl (qrg hf59598 (by decide) (by decide)) (qrg hf63346 (by decide) (by decide)) (fun h63350 => ?_) (fun h63350 => ?_)
              · skip
                refine qr_iinc _ 135 rfl g63340 (by decide) rfl rfl ?_
                refine qr_goto 18 rfl rfl ?_
                exact ih63348 _ (u63341 + 1) α63343 (by omega) (qm_gk g63338 (by decide) (Or.inl (by decide))) (qm_gk g63339 (by decide) (Or.inr rfl)) (qm_ge _ _ _) (by omega) hI63344 hF63345
              · skip
                refine qr_aload_n 38 rfl g63338 rfl ?_
                refine qr_get 41 rfl rfl rfl (by decide) rfl ?_
                have hs63351 : (-9223372036854775808) ≤ σ 70 3 ∧ σ 70 3 ≤ 9223372036854775807 := hI63344.1 70 3
                refine qr_iload_n 42 rfl g63339 rfl ?_
                refine qr_callN 45 rfl rfl rfl (sf_50 (d := d + 3) hI63344 hs63351 (qrg hf59598 (by decide) (by decide))) ?_
                rintro _ _ ⟨rfl, v63352, rfl, hv63352⟩
                show qr_W (qe L xs vb) (d + 4) qx_e137 _ (45, _, [.int (qz v63352)], qw σ α63343 κ ρ, 0, 0)
                refine qr_if_eq 132 48 rfl rfl rfl (qrg hv63352 (by decide) (by decide)) (fun h63353 => ?_) (fun h63353 => ?_)
                · skip
                  refine qr_iinc _ 135 rfl g63340 (by decide) rfl rfl ?_
                  refine qr_goto 18 rfl rfl ?_
                  exact ih63348 _ (u63341 + 1) α63343 (by omega) (qm_gk g63338 (by decide) (Or.inl (by decide))) (qm_gk g63339 (by decide) (Or.inr rfl)) (qm_ge _ _ _) (by omega) hI63344 hF63345
                · skip
                  refine qr_aload_n 49 rfl g63338 rfl ?_
                  refine qr_get 52 rfl rfl rfl (by decide) rfl ?_
                  refine qr_aload_n 53 rfl g63338 rfl ?_
                  refine qr_get 56 rfl rfl rfl (by decide) rfl ?_
                  have hs63354 : (-9223372036854775808) ≤ σ 70 6 ∧ σ 70 6 ≤ 9223372036854775807 := hI63344.1 70 6
                  refine qr_land 57 rfl rfl ?_
                  refine qy_canl (fun v63355 hv63355 => ?_)
                  refine qr_iload_n 58 rfl g63340 rfl ?_
                  refine qr_callN 61 rfl rfl rfl (sf_50 (d := d + 3) hI63344 hv63355 (qrg hf63346 (by decide) (by decide))) ?_
                  rintro _ _ ⟨rfl, v63356, rfl, hv63356⟩
                  show qr_W (qe L xs vb) (d + 4) qx_e137 _ (61, _, [.int (qz v63356)], qw σ α63343 κ ρ, 0, 0)
                  refine qr_if_ne 67 64 rfl rfl rfl (qrg hv63356 (by decide) (by decide)) (fun h63357 => ?_) (fun h63357 => ?_)
                  · skip
                    refine qr_iconst 68 rfl rfl ?_
                    refine qr_istore_n _ 69 rfl (by decide) rfl rfl ?_
                    have hL63592 : ∀ (n : Nat) (ls : qm_L) (u63586 : Int) (α63588 : Nat → Nat → Int), 31 - u63586 < (n : Int) → qm_get ls 0 = some (.ref 70) → qm_get ls 1 = some (.int (qz u59593)) → qm_get ls 2 = some (.int (qz u63341)) → qm_get ls 3 = some (.int (qz u63586)) → (0 ≤ u63586 ∧ u63586 ≤ 31) → qI σ α63588 κ ρ → qFr [] [53, 57, 59, 60, 61, 62, 63, 85] σ α σ α63588 → qr_W (qe L xs vb) (d + 4) qx_e137 (fun r w' => ∃ α', w' = qw σ α' κ ρ ∧ qI σ α' κ ρ ∧ qFr [] [53, 57, 59, 60, 61, 62, 63, 85] σ α σ α' ∧ ∃ v : Int, r = some (.int (qz v)) ∧ ((-1) ≤ v ∧ v ≤ 3131) ∧ (v = -1 ∨ (0 ≤ v ∧ v / 100 ≤ 31 ∧ v % 100 ≤ 31 ∧ ¬ v / 100 = v % 100))) (69, ls, [], qw σ α63588 κ ρ, 0, 0) := by
                      intro n
                      induction n with
                      | zero => intro ls u63586 α63588 hm g63582 g63583 g63584 g63585 hf63591 hI63589 hF63590; exact False.elim (by omega)
                      | succ n ih63593 =>
                        intro ls u63586 α63588 hm g63582 g63583 g63584 g63585 hf63591 hI63589 hF63590
                        refine qr_iload_n 70 rfl g63585 rfl ?_
                        refine qr_aload_n 71 rfl g63582 rfl ?_
                        refine qr_get 74 rfl rfl rfl (by decide) rfl ?_
                        have hs63594 : 0 ≤ σ 70 2 ∧ σ 70 2 ≤ 31 := hI63589.1 70 2
                        refine qr_icmp_ge 132 77 rfl rfl rfl (qrg hf63591 (by decide) (by decide)) (qrg hs63594 (by decide) (by decide)) (fun h63595 => ?_) (fun h63595 => ?_)
                        · skip
                          refine qr_iinc _ 135 rfl g63584 (by decide) rfl rfl ?_
                          refine qr_goto 18 rfl rfl ?_
                          exact ih63348 _ (u63341 + 1) α63588 (by omega) (qm_gk g63582 (by decide) (Or.inl (by decide))) (qm_gk g63583 (by decide) (Or.inr rfl)) (qm_ge _ _ _) (by omega) hI63589 hF63590
                        · skip
                          refine qr_aload_n 78 rfl g63582 rfl ?_
                          refine qr_get 81 rfl rfl rfl (by decide) rfl ?_
                          refine qr_iload_n 82 rfl g63585 rfl ?_
                          refine qr_iaload 83 rfl rfl (by omega) (by decide) rfl ?_
                          refine qr_topI (fun v63596 hv63596 => ?_)
                          have hs63597 : 0 ≤ v63596 ∧ v63596 ≤ 3131 := by rw [hv63596]; exact hI63589.2.1 71 _ (show _ < 31 by omega)
                          have hs63598 : v63596 % 100 ≤ 31 := by rw [hv63596]; exact hI63589.2.2.2.2.1 71 (Or.inl rfl) _ (by omega)
                          refine qr_bipush 85 rfl (by decide) rfl ?_
                          refine qr_idiv 86 rfl (qrg hs63597 (by decide) (by decide)) (by decide) rfl ?_
                          refine qr_iload_n 87 rfl g63584 rfl ?_
                          refine qr_icmp_eq 93 90 rfl rfl rfl (by omega) (qrg hf63346 (by decide) (by decide)) (fun h63599 => ?_) (fun h63599 => ?_)
                          · skip
                            refine qr_aload_n 94 rfl g63582 rfl ?_
                            refine qr_get 97 rfl rfl rfl (by decide) rfl ?_
                            refine qr_iconst 98 rfl rfl ?_
                            refine qr_iload_n 99 rfl g63583 rfl ?_
                            refine qr_iload_n 100 rfl g63584 rfl ?_
                            refine qr_aload_n 101 rfl g63582 rfl ?_
                            refine qr_get 104 rfl rfl rfl (by decide) rfl ?_
                            refine qr_iload_n 105 rfl g63585 rfl ?_
                            refine qr_iaload 106 rfl rfl (by omega) (by decide) rfl ?_
                            refine qr_topI (fun v63600 hv63600 => ?_)
                            have hs63601 : 0 ≤ v63600 ∧ v63600 ≤ 3131 := by rw [hv63600]; exact hI63589.2.1 71 _ (show _ < 31 by omega)
                            have hs63602 : v63600 % 100 ≤ 31 := by rw [hv63600]; exact hI63589.2.2.2.2.1 71 (Or.inl rfl) _ (by omega)
                            refine qr_bipush 108 rfl (by decide) rfl ?_
                            refine qr_irem 109 rfl (qrg hs63601 (by decide) (by decide)) (by decide) rfl ?_
                            refine qr_aload_n 110 rfl g63582 rfl ?_
                            refine qr_get 113 rfl rfl rfl (by decide) rfl ?_
                            refine qr_callN 116 rfl rfl rfl (sf_90_58 (d := d + 0) hI63589 (by decide) (by omega) (by omega) (by omega) hs63351 (by omega)) ?_
                            rintro _ _ ⟨α63604, rfl, hI63605, hG63606, v63603, rfl, hv63603⟩
                            have hF63607 : qFr [] [53, 57, 59, 60, 61, 62, 63, 85] σ α σ α63604 := qFr_t hF63590 hG63606 (by decide) (by decide)
                            show qr_W (qe L xs vb) (d + 4) qx_e137 _ (116, _, [.int (qz v63603)], qw σ α63604 κ ρ, 0, 0)
                            refine qr_if_eq 126 119 rfl rfl rfl hv63603 (fun h63608 => ?_) (fun h63608 => ?_)
                            · skip
                              refine qr_iinc _ 129 rfl g63585 (by decide) rfl rfl ?_
                              refine qr_goto 69 rfl rfl ?_
                              exact ih63593 _ (u63586 + 1) α63604 (by omega) (qm_gk g63582 (by decide) (Or.inl (by decide))) (qm_gk g63583 (by decide) (Or.inl (by decide))) (qm_gk g63584 (by decide) (Or.inr rfl)) (qm_ge _ _ _) (by omega) hI63605 hF63607
                            · skip
                              refine qr_bipush 121 rfl (by decide) rfl ?_
                              refine qr_iload_n 122 rfl g63583 rfl ?_
                              refine qr_imul 123 rfl rfl ?_
                              refine qr_iload_n 124 rfl g63584 rfl ?_
                              refine qr_iadd 125 rfl rfl ?_
                              refine qr_retI rfl rfl (by decide) (by decide) ?_
                              exact ⟨_, rfl, hI63605, hF63607, ((100 * u59593) + u63341), rfl, (by omega), by omega⟩
                          · skip
                            refine qr_goto 126 rfl rfl ?_
                            refine qr_iinc _ 129 rfl g63585 (by decide) rfl rfl ?_
                            refine qr_goto 69 rfl rfl ?_
                            exact ih63593 _ (u63586 + 1) α63588 (by omega) (qm_gk g63582 (by decide) (Or.inl (by decide))) (qm_gk g63583 (by decide) (Or.inl (by decide))) (qm_gk g63584 (by decide) (Or.inr rfl)) (qm_ge _ _ _) (by omega) hI63589 hF63590
                    exact hL63592 ((31 - 0 + 1 : Int)).toNat _ 0 α63343 (by omega) (qm_gk g63338 (by decide) (Or.inl (by decide))) (qm_gk g63339 (by decide) (Or.inl (by decide))) (qm_gk g63340 (by decide) (Or.inr rfl)) (qm_ge _ _ _) (by decide) hI63344 hF63345
                  · skip
                    refine qr_goto 132 rfl rfl ?_
                    refine qr_iinc _ 135 rfl g63340 (by decide) rfl rfl ?_
                    refine qr_goto 18 rfl rfl ?_
                    exact ih63348 _ (u63341 + 1) α63343 (by omega) (qm_gk g63338 (by decide) (Or.inl (by decide))) (qm_gk g63339 (by decide) (Or.inr rfl)) (qm_ge _ _ _) (by omega) hI63344 hF63345
        exact hL63347 ((32 - 0 + 1 : Int)).toNat _ 0 α59595 (by omega) (qm_gk g59591 (by decide) (Or.inl (by decide))) (qm_gk g59592 (by decide) (Or.inr rfl)) (qm_ge _ _ _) (by decide) hI59596 hF59597
  exact hL59599 ((32 - 0 + 1 : Int)).toNat _ 0 α (by omega) rfl rfl (by decide) hI hF0

set_option maxHeartbeats 4000000 in
set_option maxRecDepth 20000 in
/-- OneRoof$Telling.tell -/
theorem sf_134_70 {L : Nat} {xs : Nat → Int} {vb : Bool} {d : Nat} {σ α : Nat → Nat → Int} {κ : Nat → Option Nat} {ρ : Nat} {x1 : Int} {x2 : Int} {x3 : Int} (hI : qI σ α κ ρ) (r1 : 0 ≤ x1 ∧ x1 ≤ 31) (r2 : 0 ≤ x2 ∧ x2 ≤ 31) (r3 : (-9223372036854775808) ≤ x3 ∧ x3 ≤ 9223372036854775807) (p0 : ¬ x1 = x2) : qm_T (qe L xs vb) (d + 6) 134 [.ref 70, .int (qz x1), .int (qz x2), .long (ql x3)] (qw σ α κ ρ) (fun r w' => ∃ σ' α', w' = qw σ' α' κ ρ ∧ qI σ' α' κ ρ ∧ qFr [(58, 10), (70, 2), (70, 3), (70, 5), (70, 6)] [53, 57, 59, 60, 61, 62, 63, 71, 72, 85] σ α σ' α' ∧ r = none) := by
  refine qr_start (d := d + 5) qv_e134 (Nat.le_of_ble_eq_true rfl) ?_
  show qr_W (qe L xs vb) (d + 5) qx_e134 _ (0, [(0, .ref 70), (1, .int (qz x1)), (2, .int (qz x2)), (3, .long (ql x3))], [], _, 0, 0)
  have hF0 := qFr_rf [(58, 10), (70, 2), (70, 3), (70, 5), (70, 6)] [53, 57, 59, 60, 61, 62, 63, 71, 72, 85] σ α
  refine qr_aload_n 1 rfl rfl rfl ?_
  refine qr_lload_n 2 rfl rfl rfl ?_
  refine qr_put 5 rfl (by decide) rfl (Nat.le_of_ble_eq_true rfl) (Nat.le_of_ble_eq_true rfl) (Or.inl rfl) (qr_fitL rfl _) rfl ?_
  refine qy_wS (qw_s σ 70 3 x3) rfl (fun σ1 e2 => ?_)
  have hI3 : qI σ1 α κ ρ := by rw [e2]; exact qI_s hI 70 3 rfl (show (-9223372036854775808) ≤ x3 ∧ x3 ≤ 9223372036854775807 by omega)
  have hF4 : qFr [(58, 10), (70, 2), (70, 3), (70, 5), (70, 6)] [53, 57, 59, 60, 61, 62, 63, 71, 72, 85] σ α σ1 α := by rw [e2]; exact qFr_s hF0 70 3 _ (by decide)
  refine qr_aload_n 6 rfl rfl rfl ?_
  refine qr_iconst 7 rfl rfl ?_
  refine qr_put 10 rfl (by decide) rfl (Nat.le_of_ble_eq_true rfl) (Nat.le_of_ble_eq_true rfl) (Or.inl rfl) (qr_fitI rfl _) rfl ?_
  refine qy_wS (qw_s σ1 70 2 0) rfl (fun σ5 e6 => ?_)
  have hI7 : qI σ5 α κ ρ := by rw [e6]; exact qI_s hI3 70 2 rfl (show 0 ≤ 0 ∧ 0 ≤ 31 by omega)
  have hF8 : qFr [(58, 10), (70, 2), (70, 3), (70, 5), (70, 6)] [53, 57, 59, 60, 61, 62, 63, 71, 72, 85] σ α σ5 α := by rw [e6]; exact qFr_s hF4 70 2 _ (by decide)
  refine qr_aload_n 11 rfl rfl rfl ?_
  refine qr_iconst 12 rfl rfl ?_
  refine qr_put 15 rfl (by decide) rfl (Nat.le_of_ble_eq_true rfl) (Nat.le_of_ble_eq_true rfl) (Or.inl rfl) (qr_fitI rfl _) rfl ?_
  refine qy_wS (qw_s σ5 70 5 0) rfl (fun σ9 e10 => ?_)
  have hI11 : qI σ9 α κ ρ := by rw [e10]; exact qI_s hI7 70 5 rfl (show 0 ≤ 0 ∧ 0 ≤ 60 by omega)
  have hF12 : qFr [(58, 10), (70, 2), (70, 3), (70, 5), (70, 6)] [53, 57, 59, 60, 61, 62, 63, 71, 72, 85] σ α σ9 α := by rw [e10]; exact qFr_s hF8 70 5 _ (by decide)
  refine qr_aload_n 16 rfl rfl rfl ?_
  refine qr_lconst 17 rfl rfl ?_
  refine qy_vl 0 rfl ?_
  refine qr_put 20 rfl (by decide) rfl (Nat.le_of_ble_eq_true rfl) (Nat.le_of_ble_eq_true rfl) (Or.inl rfl) (qr_fitL rfl _) rfl ?_
  refine qy_wS (qw_s σ9 70 6 0) rfl (fun σ13 e14 => ?_)
  have hI15 : qI σ13 α κ ρ := by rw [e14]; exact qI_s hI11 70 6 rfl (show (-9223372036854775808) ≤ 0 ∧ 0 ≤ 9223372036854775807 by omega)
  have hF16 : qFr [(58, 10), (70, 2), (70, 3), (70, 5), (70, 6)] [53, 57, 59, 60, 61, 62, 63, 71, 72, 85] σ α σ13 α := by rw [e14]; exact qFr_s hF12 70 6 _ (by decide)
  refine qr_aload_n 21 rfl rfl rfl ?_
  refine qr_iload_n 22 rfl rfl rfl ?_
  refine qr_iload_n 23 rfl rfl rfl ?_
  refine qr_callN 26 rfl rfl rfl (sf_135_70 (d := d + 1) hI15 r1 r2 (by omega)) ?_
  rintro _ _ ⟨σ17, α18, rfl, hI19, hG20, rfl⟩
  have hF21 : qFr [(58, 10), (70, 2), (70, 3), (70, 5), (70, 6)] [53, 57, 59, 60, 61, 62, 63, 71, 72, 85] σ α σ17 α18 := qFr_t hF16 hG20 (by decide) (by decide)
  show qr_W (qe L xs vb) (d + 5) qx_e134 _ (26, _, [], qw σ17 α18 κ ρ, 0, 0)
  refine qr_iconst 27 rfl rfl ?_
  refine qr_istore _ 29 rfl (by decide) rfl rfl ?_
  have hL620 : ∀ (n : Nat) (ls : qm_L) (u614 : Int) (σ615 α616 : Nat → Nat → Int), 31 - u614 < (n : Int) → qm_get ls 0 = some (.ref 70) → qm_get ls 5 = some (.int (qz u614)) → (1 ≤ u614 ∧ u614 ≤ 31) → qI σ615 α616 κ ρ → qFr [(58, 10), (70, 2), (70, 3), (70, 5), (70, 6)] [53, 57, 59, 60, 61, 62, 63, 71, 72, 85] σ α σ615 α616 → qr_W (qe L xs vb) (d + 5) qx_e134 (fun r w' => ∃ σ' α', w' = qw σ' α' κ ρ ∧ qI σ' α' κ ρ ∧ qFr [(58, 10), (70, 2), (70, 3), (70, 5), (70, 6)] [53, 57, 59, 60, 61, 62, 63, 71, 72, 85] σ α σ' α' ∧ r = none) (29, ls, [], qw σ615 α616 κ ρ, 0, 0) := by
    intro n
    induction n with
    | zero => intro ls u614 σ615 α616 hm g612 g613 hf619 hI617 hF618; exact False.elim (by omega)
    | succ n ih621 =>
      intro ls u614 σ615 α616 hm g612 g613 hf619 hI617 hF618
      refine qr_iload 31 rfl g613 rfl ?_
      refine qr_bipush 33 rfl (by decide) rfl ?_
      refine qr_icmp_ge 88 36 rfl rfl rfl (qrg hf619 (by decide) (by decide)) (by decide) (fun h622 => ?_) (fun h622 => ?_)
      · skip
        refine qr_aload_n 89 rfl g612 rfl ?_
        refine qr_get 92 rfl rfl rfl (by decide) rfl ?_
        refine qr_lconst 93 rfl rfl ?_
        refine qy_vl 0 rfl ?_
        refine qr_put 96 rfl (by decide) rfl (Nat.le_of_ble_eq_true rfl) (Nat.le_of_ble_eq_true rfl) (Or.inl rfl) (qr_fitL rfl _) rfl ?_
        refine qy_wS (qw_s σ615 58 10 0) rfl (fun σ623 e624 => ?_)
        have hI625 : qI σ623 α616 κ ρ := by rw [e624]; exact qI_s hI617 58 10 rfl (show (-9223372036854775808) ≤ 0 ∧ 0 ≤ 9223372036854775807 by omega)
        have hF626 : qFr [(58, 10), (70, 2), (70, 3), (70, 5), (70, 6)] [53, 57, 59, 60, 61, 62, 63, 71, 72, 85] σ α σ623 α616 := by rw [e624]; exact qFr_s hF618 58 10 _ (by decide)
        refine qr_retV rfl rfl (by decide) (by decide) ?_
        exact ⟨_, _, rfl, hI625, hF626, rfl⟩
      · skip
        refine qr_aload_n 37 rfl g612 rfl ?_
        refine qr_callN 40 rfl rfl rfl (sf_137_70 (d := d + 0) hI617 ) ?_
        rintro _ _ ⟨α629, rfl, hI630, hG631, v627, rfl, hv627, hp628⟩
        have hF632 : qFr [(58, 10), (70, 2), (70, 3), (70, 5), (70, 6)] [53, 57, 59, 60, 61, 62, 63, 71, 72, 85] σ α σ615 α629 := qFr_t hF618 hG631 (by decide) (by decide)
        show qr_W (qe L xs vb) (d + 5) qx_e134 _ (40, _, [.int (qz v627)], qw σ615 α629 κ ρ, 0, 0)
        refine qr_istore _ 42 rfl (by decide) rfl rfl ?_
        refine qr_iload 44 rfl (qm_ge _ _ _) rfl ?_
        have hJ650 : ∀ (ls : qm_L) (u643 : Int) (α645 : Nat → Nat → Int), qm_get ls 0 = some (.ref 70) → qm_get ls 5 = some (.int (qz u614)) → qm_get ls 6 = some (.int (qz u643)) → ((-1) ≤ u643 ∧ u643 ≤ 3131) → qI σ615 α645 κ ρ → qFr [(58, 10), (70, 2), (70, 3), (70, 5), (70, 6)] [53, 57, 59, 60, 61, 62, 63, 71, 72, 85] σ α σ615 α645 → (u643 = -1 ∨ (0 ≤ u643 ∧ u643 / 100 ≤ 31 ∧ u643 % 100 ≤ 31 ∧ ¬ u643 / 100 = u643 % 100)) → qr_W (qe L xs vb) (d + 5) qx_e134 (fun r w' => ∃ σ' α', w' = qw σ' α' κ ρ ∧ qI σ' α' κ ρ ∧ qFr [(58, 10), (70, 2), (70, 3), (70, 5), (70, 6)] [53, 57, 59, 60, 61, 62, 63, 71, 72, 85] σ α σ' α' ∧ r = none) (60, ls, [], qw σ615 α645 κ ρ, 0, 0) := by
          intro ls u643 α645 g640 g641 g642 hf648 hI646 hF647 hx649
          refine qr_iload 62 rfl g642 rfl ?_
          refine qr_if_ge 68 65 rfl rfl rfl (qrg hf648 (by decide) (by decide)) (fun h651 => ?_) (fun h651 => ?_)
          · skip
            refine qr_aload_n 69 rfl g640 rfl ?_
            refine qr_iload 71 rfl g642 rfl ?_
            refine qr_bipush 73 rfl (by decide) rfl ?_
            refine qr_idiv 74 rfl (by omega) (by decide) rfl ?_
            refine qr_iload 76 rfl g642 rfl ?_
            refine qr_bipush 78 rfl (by decide) rfl ?_
            refine qr_irem 79 rfl (by omega) (by decide) rfl ?_
            refine qr_callN 82 rfl rfl rfl (sf_135_70 (d := d + 1) hI646 (by omega) (by omega) (by omega)) ?_
            rintro _ _ ⟨σ652, α653, rfl, hI654, hG655, rfl⟩
            have hF656 : qFr [(58, 10), (70, 2), (70, 3), (70, 5), (70, 6)] [53, 57, 59, 60, 61, 62, 63, 71, 72, 85] σ α σ652 α653 := qFr_t hF647 hG655 (by decide) (by decide)
            show qr_W (qe L xs vb) (d + 5) qx_e134 _ (82, _, [], qw σ652 α653 κ ρ, 0, 0)
            refine qr_iinc _ 85 rfl g641 (by decide) rfl rfl ?_
            refine qr_goto 29 rfl rfl ?_
            exact ih621 _ (u614 + 1) σ652 α653 (by omega) (qm_gk g640 (by decide) (Or.inl (by decide))) (qm_ge _ _ _) (by omega) hI654 hF656
          · skip
            refine qr_goto 88 rfl rfl ?_
            refine qr_aload_n 89 rfl g640 rfl ?_
            refine qr_get 92 rfl rfl rfl (by decide) rfl ?_
            refine qr_lconst 93 rfl rfl ?_
            refine qy_vl 0 rfl ?_
            refine qr_put 96 rfl (by decide) rfl (Nat.le_of_ble_eq_true rfl) (Nat.le_of_ble_eq_true rfl) (Or.inl rfl) (qr_fitL rfl _) rfl ?_
            refine qy_wS (qw_s σ615 58 10 0) rfl (fun σ657 e658 => ?_)
            have hI659 : qI σ657 α645 κ ρ := by rw [e658]; exact qI_s hI646 58 10 rfl (show (-9223372036854775808) ≤ 0 ∧ 0 ≤ 9223372036854775807 by omega)
            have hF660 : qFr [(58, 10), (70, 2), (70, 3), (70, 5), (70, 6)] [53, 57, 59, 60, 61, 62, 63, 71, 72, 85] σ α σ657 α645 := by rw [e658]; exact qFr_s hF647 58 10 _ (by decide)
            refine qr_retV rfl rfl (by decide) (by decide) ?_
            exact ⟨_, _, rfl, hI659, hF660, rfl⟩
        refine qr_if_ge 60 47 rfl rfl rfl (qrg hv627 (by decide) (by decide)) (fun h661 => ?_) (fun h661 => ?_)
        · skip
          exact hJ650 _ v627 α629 (qm_gk g612 (by decide) (Or.inl (by decide))) (qm_gk g613 (by decide) (Or.inr rfl)) (qm_ge _ _ _) hv627 hI630 hF632 (by omega)
        · skip
          refine qr_aload_n 48 rfl (qm_gk g612 (by decide) (Or.inl (by decide))) rfl ?_
          refine qr_get 51 rfl rfl rfl (by decide) rfl ?_
          refine qr_aload_n 52 rfl (qm_gk g612 (by decide) (Or.inl (by decide))) rfl ?_
          refine qr_get 55 rfl rfl rfl (by decide) rfl ?_
          have hs662 : (-9223372036854775808) ≤ σ615 70 3 ∧ σ615 70 3 ≤ 9223372036854775807 := hI630.1 70 3
          refine qr_callN 58 rfl rfl rfl (sf_104_58 (d := d + 0) hI630 hs662) ?_
          rintro _ _ ⟨α665, rfl, hI666, hG667, v663, rfl, hv663, hp664⟩
          have hF668 : qFr [(58, 10), (70, 2), (70, 3), (70, 5), (70, 6)] [53, 57, 59, 60, 61, 62, 63, 71, 72, 85] σ α σ615 α665 := qFr_t hF632 hG667 (by decide) (by decide)
          show qr_W (qe L xs vb) (d + 5) qx_e134 _ (58, _, [.int (qz v663)], qw σ615 α665 κ ρ, 0, 0)
          refine qr_istore _ 60 rfl (by decide) rfl rfl ?_
          exact hJ650 _ v663 α665 (qm_gk (qm_gk g612 (by decide) (Or.inl (by decide))) (by decide) (Or.inl (by decide))) (qm_gk (qm_gk g613 (by decide) (Or.inr rfl)) (by decide) (Or.inr rfl)) (qm_ge _ _ _) hv663 hI666 hF668 (by omega)
  exact hL620 ((31 - 1 + 1 : Int)).toNat _ 1 σ17 α18 (by omega) rfl rfl (by decide) hI19 hF21

set_option maxHeartbeats 4000000 in
set_option maxRecDepth 20000 in
/-- OneRoof$Telling.land -/
theorem sf_135_73 {L : Nat} {xs : Nat → Int} {vb : Bool} {d : Nat} {σ α : Nat → Nat → Int} {κ : Nat → Option Nat} {ρ : Nat} {x1 : Int} {x2 : Int} (hI : qI σ α κ ρ) (r1 : 0 ≤ x1 ∧ x1 ≤ 31) (r2 : 0 ≤ x2 ∧ x2 ≤ 31) (p0 : ¬ x1 = x2) : qm_T (qe L xs vb) (d + 4) 135 [.ref 73, .int (qz x1), .int (qz x2)] (qw σ α κ ρ) (fun r w' => ∃ σ' α', w' = qw σ' α' κ ρ ∧ qI σ' α' κ ρ ∧ qFr [(58, 10), (73, 2), (73, 3), (73, 5), (73, 6)] [62, 63, 74, 75] σ α σ' α' ∧ r = none) := by
  refine qr_start (d := d + 3) qv_e135 (Nat.le_of_ble_eq_true rfl) ?_
  show qr_W (qe L xs vb) (d + 3) qx_e135 _ (0, [(0, .ref 73), (1, .int (qz x1)), (2, .int (qz x2))], [], _, 0, 0)
  have hF0 := qFr_rf [(58, 10), (73, 2), (73, 3), (73, 5), (73, 6)] [62, 63, 74, 75] σ α
  refine qr_aload_n 1 rfl rfl rfl ?_
  refine qr_get 4 rfl rfl rfl (by decide) rfl ?_
  have hs1 : 0 ≤ σ 73 2 ∧ σ 73 2 ≤ 31 := hI.1 73 2
  refine qr_aload_n 5 rfl rfl rfl ?_
  refine qr_get 8 rfl rfl rfl (by decide) rfl ?_
  refine qr_alen 9 rfl rfl (by first | exact Or.inl (by decide) | exact Or.inr (Or.inl rfl) | exact Or.inr (Or.inr (Or.inl rfl)) | exact Or.inr (Or.inr (Or.inr (Or.inl rfl)))) rfl ?_
  refine qy_v 31 rfl ?_
  refine qr_icmp_lt 13 12 rfl rfl rfl (qrg hs1 (by decide) (by decide)) (by decide) (fun h2 => ?_) (fun h2 => ?_)
  · skip
    refine qr_aload_n 14 rfl rfl rfl ?_
    refine qr_get 17 rfl rfl rfl (by decide) rfl ?_
    refine qr_aload_n 18 rfl rfl rfl ?_
    refine qr_dup 19 rfl rfl rfl ?_
    refine qr_get 22 rfl rfl rfl (by decide) rfl ?_
    refine qr_dup_x1 23 rfl rfl rfl rfl ?_
    refine qr_iconst 24 rfl rfl ?_
    refine qr_iadd 25 rfl rfl ?_
    refine qr_put 28 rfl (by decide) rfl (Nat.le_of_ble_eq_true rfl) (Nat.le_of_ble_eq_true rfl) (Or.inl rfl) (qr_fitI rfl _) rfl ?_
    refine qy_wS (qw_s σ 73 2 ((σ 73 2) + 1)) rfl (fun σ3 e4 => ?_)
    have hI5 : qI σ3 α κ ρ := by rw [e4]; exact qI_s hI 73 2 rfl (show 0 ≤ ((σ 73 2) + 1) ∧ ((σ 73 2) + 1) ≤ 31 by omega)
    have hF6 : qFr [(58, 10), (73, 2), (73, 3), (73, 5), (73, 6)] [62, 63, 74, 75] σ α σ3 α := by rw [e4]; exact qFr_s hF0 73 2 _ (by decide)
    refine qr_bipush 30 rfl (by decide) rfl ?_
    refine qr_iload_n 31 rfl rfl rfl ?_
    refine qr_imul 32 rfl rfl ?_
    refine qr_iload_n 33 rfl rfl rfl ?_
    refine qr_iadd 34 rfl rfl ?_
    refine qr_iastore 35 rfl (by decide) rfl (by omega) (by decide) rfl ?_
    refine qy_wA (qw_r α 74 (qzu (α 74) ((σ 73 2) : Int).toNat ((100 * x1) + x2))) rfl (fun α7 e8 => ?_)
    have hI9 : qI σ3 α7 κ ρ := by rw [e8]; exact qI_r71 hI5 74 _ (by decide) (show 0 ≤ ((100 * x1) + x2) ∧ ((100 * x1) + x2) ≤ 3131 by omega) (by omega)
    have hF10 : qFr [(58, 10), (73, 2), (73, 3), (73, 5), (73, 6)] [62, 63, 74, 75] σ α σ3 α7 := by rw [e8]; exact qFr_r hF6 74 _ (by decide)
    refine qr_aload_n 36 rfl rfl rfl ?_
    refine qr_dup 37 rfl rfl rfl ?_
    refine qr_get 40 rfl rfl rfl (by decide) rfl ?_
    have hs11 : (-9223372036854775808) ≤ σ3 73 6 ∧ σ3 73 6 ≤ 9223372036854775807 := hI9.1 73 6
    refine qr_lconst 41 rfl rfl ?_
    refine qy_vl 1 rfl ?_
    refine qr_iload_n 42 rfl rfl rfl ?_
    refine qr_lshl 43 rfl rfl ?_
    refine qy_canl (fun v12 hv12 => ?_)
    refine qr_lor 44 rfl rfl ?_
    refine qy_canl (fun v13 hv13 => ?_)
    refine qr_put 47 rfl (by decide) rfl (Nat.le_of_ble_eq_true rfl) (Nat.le_of_ble_eq_true rfl) (Or.inl rfl) (qr_fitL rfl _) rfl ?_
    refine qy_wS (qw_s σ3 73 6 v13) rfl (fun σ14 e15 => ?_)
    have hI16 : qI σ14 α7 κ ρ := by rw [e15]; exact qI_s hI9 73 6 rfl (show (-9223372036854775808) ≤ v13 ∧ v13 ≤ 9223372036854775807 by omega)
    have hF17 : qFr [(58, 10), (73, 2), (73, 3), (73, 5), (73, 6)] [62, 63, 74, 75] σ α σ14 α7 := by rw [e15]; exact qFr_s hF10 73 6 _ (by decide)
    refine qr_aload_n 48 rfl rfl rfl ?_
    refine qr_dup 49 rfl rfl rfl ?_
    refine qr_get 52 rfl rfl rfl (by decide) rfl ?_
    have hs18 : (-9223372036854775808) ≤ σ14 73 3 ∧ σ14 73 3 ≤ 9223372036854775807 := hI16.1 73 3
    refine qr_lconst 53 rfl rfl ?_
    refine qy_vl 1 rfl ?_
    refine qr_iload_n 54 rfl rfl rfl ?_
    refine qr_lshl 55 rfl rfl ?_
    refine qy_canl (fun v19 hv19 => ?_)
    refine qr_ldc2 (-1) 58 rfl (by decide) rfl ?_
    refine qr_lxor 59 rfl rfl ?_
    refine qy_canl (fun v20 hv20 => ?_)
    refine qr_land 60 rfl rfl ?_
    refine qy_canl (fun v21 hv21 => ?_)
    refine qr_put 63 rfl (by decide) rfl (Nat.le_of_ble_eq_true rfl) (Nat.le_of_ble_eq_true rfl) (Or.inl rfl) (qr_fitL rfl _) rfl ?_
    refine qy_wS (qw_s σ14 73 3 v21) rfl (fun σ22 e23 => ?_)
    have hI24 : qI σ22 α7 κ ρ := by rw [e23]; exact qI_s hI16 73 3 rfl (show (-9223372036854775808) ≤ v21 ∧ v21 ≤ 9223372036854775807 by omega)
    have hF25 : qFr [(58, 10), (73, 2), (73, 3), (73, 5), (73, 6)] [62, 63, 74, 75] σ α σ22 α7 := by rw [e23]; exact qFr_s hF17 73 3 _ (by decide)
    refine qr_aload_n 64 rfl rfl rfl ?_
    refine qr_get 67 rfl rfl rfl (by decide) rfl ?_
    refine qr_iload_n 68 rfl rfl rfl ?_
    refine qr_iload_n 69 rfl rfl rfl ?_
    refine qr_callN 72 rfl rfl rfl (sf_94_58 (d := d + 0) hI24 r1 r2 (by omega)) ?_
    rintro _ _ ⟨α27, rfl, hI28, hG29, v26, rfl, hv26⟩
    have hF30 : qFr [(58, 10), (73, 2), (73, 3), (73, 5), (73, 6)] [62, 63, 74, 75] σ α σ22 α27 := qFr_t hF25 hG29 (by decide) (by decide)
    show qr_W (qe L xs vb) (d + 3) qx_e135 _ (72, _, [.long (ql v26)], qw σ22 α27 κ ρ, 0, 0)
    refine qr_aload_n 73 rfl rfl rfl ?_
    refine qr_get 76 rfl rfl rfl (by decide) rfl ?_
    refine qr_get 79 rfl rfl rfl (by decide) rfl ?_
    refine qr_iload_n 80 rfl rfl rfl ?_
    refine qr_callN 83 rfl rfl rfl (sf_136_34 (d := d + 1) hI28 (qrg r1 (by decide) (by decide))) ?_
    rintro _ _ ⟨rfl, v31, rfl, hv31⟩
    show qr_W (qe L xs vb) (d + 3) qx_e135 _ (83, _, [.long (ql v31), .long (ql v26)], qw σ22 α27 κ ρ, 0, 0)
    refine qr_land 84 rfl rfl ?_
    refine qy_canl (fun v32 hv32 => ?_)
    as_aux_lemma =>
      refine qr_lstore_n _ 85 rfl (by decide) rfl rfl ?_
      refine qr_iconst 86 rfl rfl ?_
      refine qr_istore _ 88 rfl (by decide) rfl rfl ?_
      have hL1717 : ∀ (n : Nat) (ls : qm_L) (u1708 : Int) (σ1709 α1710 : Nat → Nat → Int), 60 - u1708 < (n : Int) → qm_get ls 0 = some (.ref 73) → qm_get ls 3 = some (.long (ql v32)) → qm_get ls 5 = some (.int (qz u1708)) → (0 ≤ u1708 ∧ u1708 ≤ 60) → qI σ1709 α1710 κ ρ → qFr [(58, 10), (73, 2), (73, 3), (73, 5), (73, 6)] [62, 63, 74, 75] σ α σ1709 α1710 → σ1709 73 2 = ((σ 73 2) + 1) → σ1709 73 3 = v21 → σ1709 73 6 = v13 → qr_W (qe L xs vb) (d + 3) qx_e135 (fun r w' => ∃ σ' α', w' = qw σ' α' κ ρ ∧ qI σ' α' κ ρ ∧ qFr [(58, 10), (73, 2), (73, 3), (73, 5), (73, 6)] [62, 63, 74, 75] σ α σ' α' ∧ r = none) (88, ls, [], qw σ1709 α1710 κ ρ, 0, 0) := by
        intro n
        induction n with
        | zero => intro ls u1708 σ1709 α1710 hm g1705 g1706 g1707 hf1716 hI1711 hF1712 hk1713 hk1714 hk1715; exact False.elim (by omega)
        | succ n ih1718 =>
          intro ls u1708 σ1709 α1710 hm g1705 g1706 g1707 hf1716 hI1711 hF1712 hk1713 hk1714 hk1715
          refine qr_iload 90 rfl g1707 rfl ?_
          refine qr_bipush 92 rfl (by decide) rfl ?_
          have hJ1756 : ∀ (ls : qm_L) (σ1749 α1750 : Nat → Nat → Int), qm_get ls 0 = some (.ref 73) → qm_get ls 3 = some (.long (ql v32)) → qI σ1749 α1750 κ ρ → qFr [(58, 10), (73, 2), (73, 3), (73, 5), (73, 6)] [62, 63, 74, 75] σ α σ1749 α1750 → σ1749 73 2 = ((σ 73 2) + 1) → σ1749 73 3 = v21 → σ1749 73 6 = v13 → qr_W (qe L xs vb) (d + 3) qx_e135 (fun r w' => ∃ σ' α', w' = qw σ' α' κ ρ ∧ qI σ' α' κ ρ ∧ qFr [(58, 10), (73, 2), (73, 3), (73, 5), (73, 6)] [62, 63, 74, 75] σ α σ' α' ∧ r = none) (140, ls, [], qw σ1749 α1750 κ ρ, 0, 0) := by
            intro ls σ1749 α1750 g1747 g1748 hI1751 hF1752 hk1753 hk1754 hk1755
            refine qr_aload_n 141 rfl g1747 rfl ?_
            refine qr_get 144 rfl rfl rfl (by decide) rfl ?_
            refine qr_dup 145 rfl rfl rfl ?_
            refine qr_get 148 rfl rfl rfl (by decide) rfl ?_
            have hs1757 : (-9223372036854775808) ≤ σ1749 58 10 ∧ σ1749 58 10 ≤ 9223372036854775807 := hI1751.1 58 10
            refine qr_lload_n 149 rfl g1748 rfl ?_
            refine qr_lor 150 rfl rfl ?_
            refine qy_canl (fun v1758 hv1758 => ?_)
            refine qr_put 153 rfl (by decide) rfl (Nat.le_of_ble_eq_true rfl) (Nat.le_of_ble_eq_true rfl) (Or.inl rfl) (qr_fitL rfl _) rfl ?_
            refine qy_wS (qw_s σ1749 58 10 v1758) rfl (fun σ1759 e1760 => ?_)
            have hI1761 : qI σ1759 α1750 κ ρ := by rw [e1760]; exact qI_s hI1751 58 10 rfl (show (-9223372036854775808) ≤ v1758 ∧ v1758 ≤ 9223372036854775807 by omega)
            have hF1762 : qFr [(58, 10), (73, 2), (73, 3), (73, 5), (73, 6)] [62, 63, 74, 75] σ α σ1759 α1750 := by rw [e1760]; exact qFr_s hF1752 58 10 _ (by decide)
            refine qr_retV rfl rfl (by decide) (by decide) ?_
            exact ⟨_, _, rfl, hI1761, hF1762, rfl⟩
          refine qr_icmp_ge 140 95 rfl rfl rfl (qrg hf1716 (by decide) (by decide)) (by decide) (fun h1763 => ?_) (fun h1763 => ?_)
          · skip
            exact hJ1756 _ σ1709 α1710 g1705 g1706 hI1711 hF1712 ((hk1713).trans rfl) ((hk1714).trans rfl) ((hk1715).trans rfl)
          · skip
            refine qr_aload_n 96 rfl g1705 rfl ?_
            refine qr_get 99 rfl rfl rfl (by decide) rfl ?_
            have hs1764 : 0 ≤ σ1709 73 5 ∧ σ1709 73 5 ≤ 60 := hI1711.1 73 5
            refine qr_aload_n 100 rfl g1705 rfl ?_
            refine qr_get 103 rfl rfl rfl (by decide) rfl ?_
            refine qr_alen 104 rfl rfl (by first | exact Or.inl (by decide) | exact Or.inr (Or.inl rfl) | exact Or.inr (Or.inr (Or.inl rfl)) | exact Or.inr (Or.inr (Or.inr (Or.inl rfl)))) rfl ?_
            refine qy_v 60 rfl ?_
            refine qr_icmp_ge 140 107 rfl rfl rfl (qrg hs1764 (by decide) (by decide)) (by decide) (fun h1765 => ?_) (fun h1765 => ?_)
            · skip
              exact hJ1756 _ σ1709 α1710 g1705 g1706 hI1711 hF1712 ((hk1713).trans rfl) ((hk1714).trans rfl) ((hk1715).trans rfl)
            · skip
              refine qr_lload_n 108 rfl g1706 rfl ?_
              refine qr_iload 110 rfl g1707 rfl ?_
              refine qr_callN 113 rfl rfl rfl (sf_50 (d := d + 2) hI1711 hv32 (qrg hf1716 (by decide) (by decide))) ?_
              rintro _ _ ⟨rfl, v1766, rfl, hv1766⟩
              show qr_W (qe L xs vb) (d + 3) qx_e135 _ (113, _, [.int (qz v1766)], qw σ1709 α1710 κ ρ, 0, 0)
              have hJ1785 : ∀ (ls : qm_L) (σ1778 α1779 : Nat → Nat → Int), qm_get ls 0 = some (.ref 73) → qm_get ls 3 = some (.long (ql v32)) → qm_get ls 5 = some (.int (qz u1708)) → qI σ1778 α1779 κ ρ → qFr [(58, 10), (73, 2), (73, 3), (73, 5), (73, 6)] [62, 63, 74, 75] σ α σ1778 α1779 → σ1778 73 2 = ((σ 73 2) + 1) → σ1778 73 3 = v21 → σ1778 73 6 = v13 → qr_W (qe L xs vb) (d + 3) qx_e135 (fun r w' => ∃ σ' α', w' = qw σ' α' κ ρ ∧ qI σ' α' κ ρ ∧ qFr [(58, 10), (73, 2), (73, 3), (73, 5), (73, 6)] [62, 63, 74, 75] σ α σ' α' ∧ r = none) (134, ls, [], qw σ1778 α1779 κ ρ, 0, 0) := by
                intro ls σ1778 α1779 g1775 g1776 g1777 hI1780 hF1781 hk1782 hk1783 hk1784
                refine qr_iinc _ 137 rfl g1777 (by decide) rfl rfl ?_
                refine qr_goto 88 rfl rfl ?_
                exact ih1718 _ (u1708 + 1) σ1778 α1779 (by omega) (qm_gk g1775 (by decide) (Or.inl (by decide))) (qm_gk g1776 (by decide) (Or.inl (by decide))) (qm_ge _ _ _) (by omega) hI1780 hF1781 ((hk1782).trans rfl) ((hk1783).trans rfl) ((hk1784).trans rfl)
              refine qr_if_eq 134 116 rfl rfl rfl (qrg hv1766 (by decide) (by decide)) (fun h1786 => ?_) (fun h1786 => ?_)
              · skip
                exact hJ1785 _ σ1709 α1710 g1705 g1706 g1707 hI1711 hF1712 ((hk1713).trans rfl) ((hk1714).trans rfl) ((hk1715).trans rfl)
              · skip
                refine qr_aload_n 117 rfl g1705 rfl ?_
                refine qr_get 120 rfl rfl rfl (by decide) rfl ?_
                refine qr_aload_n 121 rfl g1705 rfl ?_
                refine qr_dup 122 rfl rfl rfl ?_
                refine qr_get 125 rfl rfl rfl (by decide) rfl ?_
                refine qr_dup_x1 126 rfl rfl rfl rfl ?_
                refine qr_iconst 127 rfl rfl ?_
                refine qr_iadd 128 rfl rfl ?_
                refine qr_put 131 rfl (by decide) rfl (Nat.le_of_ble_eq_true rfl) (Nat.le_of_ble_eq_true rfl) (Or.inl rfl) (qr_fitI rfl _) rfl ?_
                refine qy_wS (qw_s σ1709 73 5 ((σ1709 73 5) + 1)) rfl (fun σ1787 e1788 => ?_)
                have hI1789 : qI σ1787 α1710 κ ρ := by rw [e1788]; exact qI_s hI1711 73 5 rfl (show 0 ≤ ((σ1709 73 5) + 1) ∧ ((σ1709 73 5) + 1) ≤ 60 by omega)
                have hF1790 : qFr [(58, 10), (73, 2), (73, 3), (73, 5), (73, 6)] [62, 63, 74, 75] σ α σ1787 α1710 := by rw [e1788]; exact qFr_s hF1712 73 5 _ (by decide)
                refine qr_iload 133 rfl g1707 rfl ?_
                refine qr_iastore 134 rfl (by decide) rfl (by omega) (by decide) rfl ?_
                refine qy_wA (qw_r α1710 75 (qzu (α1710 75) ((σ1709 73 5) : Int).toNat u1708)) rfl (fun α1791 e1792 => ?_)
                have hI1793 : qI σ1787 α1791 κ ρ := by rw [e1792]; exact qI_r hI1789 75 _ rfl (show 0 ≤ u1708 ∧ u1708 ≤ 59 by omega)
                have hF1794 : qFr [(58, 10), (73, 2), (73, 3), (73, 5), (73, 6)] [62, 63, 74, 75] σ α σ1787 α1791 := by rw [e1792]; exact qFr_r hF1790 75 _ (by decide)
                exact hJ1785 _ σ1787 α1791 g1705 g1706 g1707 hI1793 hF1794 ((congrFun (congrFun e1788 73) 2).trans ((hk1713).trans rfl)) ((congrFun (congrFun e1788 73) 3).trans ((hk1714).trans rfl)) ((congrFun (congrFun e1788 73) 6).trans ((hk1715).trans rfl))
      exact hL1717 ((60 - 0 + 1 : Int)).toNat _ 0 σ22 α27 (by omega) rfl rfl rfl (by decide) hI28 hF30 ((congrFun (congrFun e23 73) 2).trans ((congrFun (congrFun e15 73) 2).trans ((congrFun (congrFun e4 73) 2).trans rfl))) ((congrFun (congrFun e23 73) 3).trans rfl) ((congrFun (congrFun e23 73) 6).trans ((congrFun (congrFun e15 73) 6).trans rfl))
  · skip
    refine qr_retV rfl rfl (by decide) (by decide) ?_
    exact ⟨_, _, rfl, hI, hF0, rfl⟩

set_option maxHeartbeats 4000000 in
set_option maxRecDepth 20000 in
/-- OneRoof$Telling.firstHelp -/
theorem sf_137_73 {L : Nat} {xs : Nat → Int} {vb : Bool} {d : Nat} {σ α : Nat → Nat → Int} {κ : Nat → Option Nat} {ρ : Nat}  (hI : qI σ α κ ρ)  : qm_T (qe L xs vb) (d + 5) 137 [.ref 73] (qw σ α κ ρ) (fun r w' => ∃ α', w' = qw σ α' κ ρ ∧ qI σ α' κ ρ ∧ qFr [] [53, 57, 59, 60, 61, 62, 63, 85] σ α σ α' ∧ ∃ v : Int, r = some (.int (qz v)) ∧ ((-1) ≤ v ∧ v ≤ 3131) ∧ (v = -1 ∨ (0 ≤ v ∧ v / 100 ≤ 31 ∧ v % 100 ≤ 31 ∧ ¬ v / 100 = v % 100))) := by
  refine qr_start (d := d + 4) qv_e137 (Nat.le_of_ble_eq_true rfl) ?_
  show qr_W (qe L xs vb) (d + 4) qx_e137 _ (0, [(0, .ref 73)], [], _, 0, 0)
  have hF0 := qFr_rf [] [53, 57, 59, 60, 61, 62, 63, 85] σ α
  refine qr_iconst 1 rfl rfl ?_
  refine qr_istore_n _ 2 rfl (by decide) rfl rfl ?_
  have hL59599 : ∀ (n : Nat) (ls : qm_L) (u59593 : Int) (α59595 : Nat → Nat → Int), 32 - u59593 < (n : Int) → qm_get ls 0 = some (.ref 73) → qm_get ls 1 = some (.int (qz u59593)) → (0 ≤ u59593 ∧ u59593 ≤ 32) → qI σ α59595 κ ρ → qFr [] [53, 57, 59, 60, 61, 62, 63, 85] σ α σ α59595 → qr_W (qe L xs vb) (d + 4) qx_e137 (fun r w' => ∃ α', w' = qw σ α' κ ρ ∧ qI σ α' κ ρ ∧ qFr [] [53, 57, 59, 60, 61, 62, 63, 85] σ α σ α' ∧ ∃ v : Int, r = some (.int (qz v)) ∧ ((-1) ≤ v ∧ v ≤ 3131) ∧ (v = -1 ∨ (0 ≤ v ∧ v / 100 ≤ 31 ∧ v % 100 ≤ 31 ∧ ¬ v / 100 = v % 100))) (2, ls, [], qw σ α59595 κ ρ, 0, 0) := by
    intro n
    induction n with
    | zero => intro ls u59593 α59595 hm g59591 g59592 hf59598 hI59596 hF59597; exact False.elim (by omega)
    | succ n ih59600 =>
      intro ls u59593 α59595 hm g59591 g59592 hf59598 hI59596 hF59597
      refine qr_iload_n 3 rfl g59592 rfl ?_
      refine qr_aload_n 4 rfl g59591 rfl ?_
      refine qr_get 7 rfl rfl rfl (by decide) rfl ?_
      refine qr_get 10 rfl rfl rfl (by decide) rfl ?_
      refine qr_get 13 rfl rfl rfl (by decide) rfl ?_
      have hs59601 : 0 ≤ σ 17 6 ∧ σ 17 6 ≤ 32 := hI59596.1 17 6
      refine qr_icmp_ge 144 16 rfl rfl rfl (qrg hf59598 (by decide) (by decide)) (qrg hs59601 (by decide) (by decide)) (fun h59602 => ?_) (fun h59602 => ?_)
      · skip
        refine qr_iconst 145 rfl rfl ?_
        refine qr_retI rfl rfl (by decide) (by decide) ?_
        exact ⟨_, rfl, hI59596, hF59597, (-1), rfl, (by decide), by omega⟩
      · skip
        refine qr_iconst 17 rfl rfl ?_
        refine qr_istore_n _ 18 rfl (by decide) rfl rfl ?_
        have hL63347 : ∀ (n : Nat) (ls : qm_L) (u63341 : Int) (α63343 : Nat → Nat → Int), 32 - u63341 < (n : Int) → qm_get ls 0 = some (.ref 73) → qm_get ls 1 = some (.int (qz u59593)) → qm_get ls 2 = some (.int (qz u63341)) → (0 ≤ u63341 ∧ u63341 ≤ 32) → qI σ α63343 κ ρ → qFr [] [53, 57, 59, 60, 61, 62, 63, 85] σ α σ α63343 → qr_W (qe L xs vb) (d + 4) qx_e137 (fun r w' => ∃ α', w' = qw σ α' κ ρ ∧ qI σ α' κ ρ ∧ qFr [] [53, 57, 59, 60, 61, 62, 63, 85] σ α σ α' ∧ ∃ v : Int, r = some (.int (qz v)) ∧ ((-1) ≤ v ∧ v ≤ 3131) ∧ (v = -1 ∨ (0 ≤ v ∧ v / 100 ≤ 31 ∧ v % 100 ≤ 31 ∧ ¬ v / 100 = v % 100))) (18, ls, [], qw σ α63343 κ ρ, 0, 0) := by
          intro n
          induction n with
          | zero => intro ls u63341 α63343 hm g63338 g63339 g63340 hf63346 hI63344 hF63345; exact False.elim (by omega)
          | succ n ih63348 =>
            intro ls u63341 α63343 hm g63338 g63339 g63340 hf63346 hI63344 hF63345
            refine qr_iload_n 19 rfl g63340 rfl ?_
            refine qr_aload_n 20 rfl g63338 rfl ?_
            refine qr_get 23 rfl rfl rfl (by decide) rfl ?_
            refine qr_get 26 rfl rfl rfl (by decide) rfl ?_
            refine qr_get 29 rfl rfl rfl (by decide) rfl ?_
            refine qr_icmp_ge 138 32 rfl rfl rfl (qrg hf63346 (by decide) (by decide)) (qrg hs59601 (by decide) (by decide)) (fun h63349 => ?_) (fun h63349 => ?_)
            · skip
              refine qr_iinc _ 141 rfl g63339 (by decide) rfl rfl ?_
              refine qr_goto 2 rfl rfl ?_
              exact ih59600 _ (u59593 + 1) α63343 (by omega) (qm_gk g63338 (by decide) (Or.inr rfl)) (qm_ge _ _ _) (by omega) hI63344 hF63345
            · skip
              refine qr_iload_n 33 rfl g63339 rfl ?_
              refine qr_iload_n 34 rfl g63340 rfl ?_
              refine qr_icmp_eq 132 37 rfl rfl rfl (qrg hf59598 (by decide) (by decide)) (qrg hf63346 (by decide) (by decide)) (fun h63350 => ?_) (fun h63350 => ?_)
              · skip
                refine qr_iinc _ 135 rfl g63340 (by decide) rfl rfl ?_
                refine qr_goto 18 rfl rfl ?_
                exact ih63348 _ (u63341 + 1) α63343 (by omega) (qm_gk g63338 (by decide) (Or.inl (by decide))) (qm_gk g63339 (by decide) (Or.inr rfl)) (qm_ge _ _ _) (by omega) hI63344 hF63345
              · skip
                refine qr_aload_n 38 rfl g63338 rfl ?_
                refine qr_get 41 rfl rfl rfl (by decide) rfl ?_
                have hs63351 : (-9223372036854775808) ≤ σ 73 3 ∧ σ 73 3 ≤ 9223372036854775807 := hI63344.1 73 3
                refine qr_iload_n 42 rfl g63339 rfl ?_
                refine qr_callN 45 rfl rfl rfl (sf_50 (d := d + 3) hI63344 hs63351 (qrg hf59598 (by decide) (by decide))) ?_
                rintro _ _ ⟨rfl, v63352, rfl, hv63352⟩
                show qr_W (qe L xs vb) (d + 4) qx_e137 _ (45, _, [.int (qz v63352)], qw σ α63343 κ ρ, 0, 0)
                refine qr_if_eq 132 48 rfl rfl rfl (qrg hv63352 (by decide) (by decide)) (fun h63353 => ?_) (fun h63353 => ?_)
                · skip
                  refine qr_iinc _ 135 rfl g63340 (by decide) rfl rfl ?_
                  refine qr_goto 18 rfl rfl ?_
                  exact ih63348 _ (u63341 + 1) α63343 (by omega) (qm_gk g63338 (by decide) (Or.inl (by decide))) (qm_gk g63339 (by decide) (Or.inr rfl)) (qm_ge _ _ _) (by omega) hI63344 hF63345
                · skip
                  refine qr_aload_n 49 rfl g63338 rfl ?_
                  refine qr_get 52 rfl rfl rfl (by decide) rfl ?_
                  refine qr_aload_n 53 rfl g63338 rfl ?_
                  refine qr_get 56 rfl rfl rfl (by decide) rfl ?_
                  have hs63354 : (-9223372036854775808) ≤ σ 73 6 ∧ σ 73 6 ≤ 9223372036854775807 := hI63344.1 73 6
                  refine qr_land 57 rfl rfl ?_
                  refine qy_canl (fun v63355 hv63355 => ?_)
                  refine qr_iload_n 58 rfl g63340 rfl ?_
                  refine qr_callN 61 rfl rfl rfl (sf_50 (d := d + 3) hI63344 hv63355 (qrg hf63346 (by decide) (by decide))) ?_
                  rintro _ _ ⟨rfl, v63356, rfl, hv63356⟩
                  show qr_W (qe L xs vb) (d + 4) qx_e137 _ (61, _, [.int (qz v63356)], qw σ α63343 κ ρ, 0, 0)
                  refine qr_if_ne 67 64 rfl rfl rfl (qrg hv63356 (by decide) (by decide)) (fun h63357 => ?_) (fun h63357 => ?_)
                  · skip
                    refine qr_iconst 68 rfl rfl ?_
                    refine qr_istore_n _ 69 rfl (by decide) rfl rfl ?_
                    have hL63592 : ∀ (n : Nat) (ls : qm_L) (u63586 : Int) (α63588 : Nat → Nat → Int), 31 - u63586 < (n : Int) → qm_get ls 0 = some (.ref 73) → qm_get ls 1 = some (.int (qz u59593)) → qm_get ls 2 = some (.int (qz u63341)) → qm_get ls 3 = some (.int (qz u63586)) → (0 ≤ u63586 ∧ u63586 ≤ 31) → qI σ α63588 κ ρ → qFr [] [53, 57, 59, 60, 61, 62, 63, 85] σ α σ α63588 → qr_W (qe L xs vb) (d + 4) qx_e137 (fun r w' => ∃ α', w' = qw σ α' κ ρ ∧ qI σ α' κ ρ ∧ qFr [] [53, 57, 59, 60, 61, 62, 63, 85] σ α σ α' ∧ ∃ v : Int, r = some (.int (qz v)) ∧ ((-1) ≤ v ∧ v ≤ 3131) ∧ (v = -1 ∨ (0 ≤ v ∧ v / 100 ≤ 31 ∧ v % 100 ≤ 31 ∧ ¬ v / 100 = v % 100))) (69, ls, [], qw σ α63588 κ ρ, 0, 0) := by
                      intro n
                      induction n with
                      | zero => intro ls u63586 α63588 hm g63582 g63583 g63584 g63585 hf63591 hI63589 hF63590; exact False.elim (by omega)
                      | succ n ih63593 =>
                        intro ls u63586 α63588 hm g63582 g63583 g63584 g63585 hf63591 hI63589 hF63590
                        refine qr_iload_n 70 rfl g63585 rfl ?_
                        refine qr_aload_n 71 rfl g63582 rfl ?_
                        refine qr_get 74 rfl rfl rfl (by decide) rfl ?_
                        have hs63594 : 0 ≤ σ 73 2 ∧ σ 73 2 ≤ 31 := hI63589.1 73 2
                        refine qr_icmp_ge 132 77 rfl rfl rfl (qrg hf63591 (by decide) (by decide)) (qrg hs63594 (by decide) (by decide)) (fun h63595 => ?_) (fun h63595 => ?_)
                        · skip
                          refine qr_iinc _ 135 rfl g63584 (by decide) rfl rfl ?_
                          refine qr_goto 18 rfl rfl ?_
                          exact ih63348 _ (u63341 + 1) α63588 (by omega) (qm_gk g63582 (by decide) (Or.inl (by decide))) (qm_gk g63583 (by decide) (Or.inr rfl)) (qm_ge _ _ _) (by omega) hI63589 hF63590
                        · skip
                          refine qr_aload_n 78 rfl g63582 rfl ?_
                          refine qr_get 81 rfl rfl rfl (by decide) rfl ?_
                          refine qr_iload_n 82 rfl g63585 rfl ?_
                          refine qr_iaload 83 rfl rfl (by omega) (by decide) rfl ?_
                          refine qr_topI (fun v63596 hv63596 => ?_)
                          have hs63597 : 0 ≤ v63596 ∧ v63596 ≤ 3131 := by rw [hv63596]; exact hI63589.2.1 74 _ (show _ < 31 by omega)
                          have hs63598 : v63596 % 100 ≤ 31 := by rw [hv63596]; exact hI63589.2.2.2.2.1 74 (Or.inr rfl) _ (by omega)
                          refine qr_bipush 85 rfl (by decide) rfl ?_
                          refine qr_idiv 86 rfl (qrg hs63597 (by decide) (by decide)) (by decide) rfl ?_
                          refine qr_iload_n 87 rfl g63584 rfl ?_
                          refine qr_icmp_eq 93 90 rfl rfl rfl (by omega) (qrg hf63346 (by decide) (by decide)) (fun h63599 => ?_) (fun h63599 => ?_)
                          · skip
                            refine qr_aload_n 94 rfl g63582 rfl ?_
                            refine qr_get 97 rfl rfl rfl (by decide) rfl ?_
                            refine qr_iconst 98 rfl rfl ?_
                            refine qr_iload_n 99 rfl g63583 rfl ?_
                            refine qr_iload_n 100 rfl g63584 rfl ?_
                            refine qr_aload_n 101 rfl g63582 rfl ?_
                            refine qr_get 104 rfl rfl rfl (by decide) rfl ?_
                            refine qr_iload_n 105 rfl g63585 rfl ?_
                            refine qr_iaload 106 rfl rfl (by omega) (by decide) rfl ?_
                            refine qr_topI (fun v63600 hv63600 => ?_)
                            have hs63601 : 0 ≤ v63600 ∧ v63600 ≤ 3131 := by rw [hv63600]; exact hI63589.2.1 74 _ (show _ < 31 by omega)
                            have hs63602 : v63600 % 100 ≤ 31 := by rw [hv63600]; exact hI63589.2.2.2.2.1 74 (Or.inr rfl) _ (by omega)
                            refine qr_bipush 108 rfl (by decide) rfl ?_
                            refine qr_irem 109 rfl (qrg hs63601 (by decide) (by decide)) (by decide) rfl ?_
                            refine qr_aload_n 110 rfl g63582 rfl ?_
                            refine qr_get 113 rfl rfl rfl (by decide) rfl ?_
                            refine qr_callN 116 rfl rfl rfl (sf_90_58 (d := d + 0) hI63589 (by decide) (by omega) (by omega) (by omega) hs63351 (by omega)) ?_
                            rintro _ _ ⟨α63604, rfl, hI63605, hG63606, v63603, rfl, hv63603⟩
                            have hF63607 : qFr [] [53, 57, 59, 60, 61, 62, 63, 85] σ α σ α63604 := qFr_t hF63590 hG63606 (by decide) (by decide)
                            show qr_W (qe L xs vb) (d + 4) qx_e137 _ (116, _, [.int (qz v63603)], qw σ α63604 κ ρ, 0, 0)
                            refine qr_if_eq 126 119 rfl rfl rfl hv63603 (fun h63608 => ?_) (fun h63608 => ?_)
                            · skip
                              refine qr_iinc _ 129 rfl g63585 (by decide) rfl rfl ?_
                              refine qr_goto 69 rfl rfl ?_
                              exact ih63593 _ (u63586 + 1) α63604 (by omega) (qm_gk g63582 (by decide) (Or.inl (by decide))) (qm_gk g63583 (by decide) (Or.inl (by decide))) (qm_gk g63584 (by decide) (Or.inr rfl)) (qm_ge _ _ _) (by omega) hI63605 hF63607
                            · skip
                              refine qr_bipush 121 rfl (by decide) rfl ?_
                              refine qr_iload_n 122 rfl g63583 rfl ?_
                              refine qr_imul 123 rfl rfl ?_
                              refine qr_iload_n 124 rfl g63584 rfl ?_
                              refine qr_iadd 125 rfl rfl ?_
                              refine qr_retI rfl rfl (by decide) (by decide) ?_
                              exact ⟨_, rfl, hI63605, hF63607, ((100 * u59593) + u63341), rfl, (by omega), by omega⟩
                          · skip
                            refine qr_goto 126 rfl rfl ?_
                            refine qr_iinc _ 129 rfl g63585 (by decide) rfl rfl ?_
                            refine qr_goto 69 rfl rfl ?_
                            exact ih63593 _ (u63586 + 1) α63588 (by omega) (qm_gk g63582 (by decide) (Or.inl (by decide))) (qm_gk g63583 (by decide) (Or.inl (by decide))) (qm_gk g63584 (by decide) (Or.inr rfl)) (qm_ge _ _ _) (by omega) hI63589 hF63590
                    exact hL63592 ((31 - 0 + 1 : Int)).toNat _ 0 α63343 (by omega) (qm_gk g63338 (by decide) (Or.inl (by decide))) (qm_gk g63339 (by decide) (Or.inl (by decide))) (qm_gk g63340 (by decide) (Or.inr rfl)) (qm_ge _ _ _) (by decide) hI63344 hF63345
                  · skip
                    refine qr_goto 132 rfl rfl ?_
                    refine qr_iinc _ 135 rfl g63340 (by decide) rfl rfl ?_
                    refine qr_goto 18 rfl rfl ?_
                    exact ih63348 _ (u63341 + 1) α63343 (by omega) (qm_gk g63338 (by decide) (Or.inl (by decide))) (qm_gk g63339 (by decide) (Or.inr rfl)) (qm_ge _ _ _) (by omega) hI63344 hF63345
        exact hL63347 ((32 - 0 + 1 : Int)).toNat _ 0 α59595 (by omega) (qm_gk g59591 (by decide) (Or.inl (by decide))) (qm_gk g59592 (by decide) (Or.inr rfl)) (qm_ge _ _ _) (by decide) hI59596 hF59597
  exact hL59599 ((32 - 0 + 1 : Int)).toNat _ 0 α (by omega) rfl rfl (by decide) hI hF0

