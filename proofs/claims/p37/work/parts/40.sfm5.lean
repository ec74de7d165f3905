set_option maxHeartbeats 4000000 in
set_option maxRecDepth 20000 in
/-- OneRoofModel.byFeud -/
theorem sf_197_86 {L : Nat} {xs : Nat → Int} {vb : Bool} {d : Nat} {σ α : Nat → Nat → Int} {κ : Nat → Option Nat} {ρ : Nat} {x1 : Int} {x2 : Int} {x3 : Int} (hI : qI σ α κ ρ) (r1 : 0 ≤ x1 ∧ x1 ≤ 39) (r2 : 0 ≤ x2 ∧ x2 ≤ 31) (r3 : 0 ≤ x3 ∧ x3 ≤ 31) : qm_T (qe L xs vb) (d + 4) 197 [.ref 86, .int (qz x1), .int (qz x2), .int (qz x3)] (qw σ α κ ρ) (fun r w' => ∃ σ' α', w' = qw σ' α' κ ρ ∧ qI σ' α' κ ρ ∧ qFr [(86, 15)] [96] σ α σ' α' ∧ ∃ v : Int, r = some (.int (qz v)) ∧ (0 ≤ v ∧ v ≤ 198)) := by
  refine qr_start (d := d + 3) qv_e197 (Nat.le_of_ble_eq_true rfl) ?_
  show qr_W (qe L xs vb) (d + 3) qx_e197 _ (0, [(0, .ref 86), (1, .int (qz x1)), (2, .int (qz x2)), (3, .int (qz x3))], [], _, 0, 0)
  have hF0 := qFr_rf [(86, 15)] [96] σ α
  refine qr_aload_n 1 rfl rfl rfl ?_
  refine qr_iload_n 2 rfl rfl rfl ?_
  refine qr_aload_n 3 rfl rfl rfl ?_
  refine qr_get 6 rfl rfl rfl (by decide) rfl ?_
  refine qr_iload_n 7 rfl rfl rfl ?_
  refine qr_iaload 8 rfl rfl (by omega) (by decide) rfl ?_
  refine qr_topI (fun v1 hv1 => ?_)
  have hs2 : 0 ≤ v1 ∧ v1 ≤ 31 := by rw [hv1]; exact hI.2.1 97 _ (show _ < 40 by omega)
  refine qr_callN 11 rfl rfl rfl (sf_187_86 (d := d + 0) hI (by omega) (by omega)) ?_
  rintro _ _ ⟨σ6, α7, rfl, hI8, hG9, hw5, v3, rfl, hv3, hp4⟩
  have hF10 : qFr [(86, 15)] [96] σ α σ6 α7 := qFr_t hF0 hG9 (by decide) (by decide)
  show qr_W (qe L xs vb) (d + 3) qx_e197 _ (11, _, [.int (qz v3)], qw σ6 α7 κ ρ, 0, 0)
  refine qr_istore _ 13 rfl (by decide) rfl rfl ?_
  refine qr_aload_n 14 rfl rfl rfl ?_
  refine qr_iload_n 15 rfl rfl rfl ?_
  refine qr_aload_n 16 rfl rfl rfl ?_
  refine qr_get 19 rfl rfl rfl (by decide) rfl ?_
  refine qr_iload_n 20 rfl rfl rfl ?_
  refine qr_iaload 21 rfl rfl (by omega) (by decide) rfl ?_
  refine qr_topI (fun v11 hv11 => ?_)
  have hs12 : 0 ≤ v11 ∧ v11 ≤ 31 := by rw [hv11]; exact hI8.2.1 98 _ (show _ < 40 by omega)
  refine qr_callN 24 rfl rfl rfl (sf_187_86 (d := d + 0) hI8 (by omega) (by omega)) ?_
  rintro _ _ ⟨σ16, α17, rfl, hI18, hG19, hw15, v13, rfl, hv13, hp14⟩
  have hF20 : qFr [(86, 15)] [96] σ α σ16 α17 := qFr_t hF10 hG19 (by decide) (by decide)
  show qr_W (qe L xs vb) (d + 3) qx_e197 _ (24, _, [.int (qz v13)], qw σ16 α17 κ ρ, 0, 0)
  refine qr_istore _ 26 rfl (by decide) rfl rfl ?_
  refine qr_iload 28 rfl rfl rfl ?_
  refine qr_aload_n 29 rfl rfl rfl ?_
  refine qr_get 32 rfl rfl rfl (by decide) rfl ?_
  refine qr_iload_n 33 rfl rfl rfl ?_
  refine qr_iaload 34 rfl rfl (by omega) (by decide) rfl ?_
  refine qr_topI (fun v21 hv21 => ?_)
  have hs22 : (-2147483648) ≤ v21 ∧ v21 ≤ 2147483647 := by rw [hv21]; exact hI18.2.1 100 _ (show _ < 40 by omega)
  refine qr_icmp_gt 56 37 rfl rfl rfl (by omega) (by omega) (fun h23 => ?_) (fun h23 => ?_)
  · skip
    refine qr_bipush 58 rfl (by decide) rfl ?_
    refine qr_retI rfl rfl (by decide) (by decide) ?_
    exact ⟨_, _, rfl, hI18, hF20, 99, rfl, by omega⟩
  · skip
    refine qr_iload 39 rfl rfl rfl ?_
    refine qr_aload_n 40 rfl rfl rfl ?_
    refine qr_get 43 rfl rfl rfl (by decide) rfl ?_
    refine qr_iload_n 44 rfl rfl rfl ?_
    refine qr_iaload 45 rfl rfl (by omega) (by decide) rfl ?_
    refine qr_topI (fun v24 hv24 => ?_)
    have hs25 : (-2147483648) ≤ v24 ∧ v24 ≤ 2147483647 := by rw [hv24]; exact hI18.2.1 100 _ (show _ < 40 by omega)
    refine qr_icmp_gt 56 48 rfl rfl rfl (by omega) (by omega) (fun h26 => ?_) (fun h26 => ?_)
    · skip
      refine qr_bipush 58 rfl (by decide) rfl ?_
      refine qr_retI rfl rfl (by decide) (by decide) ?_
      exact ⟨_, _, rfl, hI18, hF20, 99, rfl, by omega⟩
    · skip
      refine qr_iload 50 rfl rfl rfl ?_
      refine qr_iload 52 rfl rfl rfl ?_
      refine qr_iadd 53 rfl rfl ?_
      refine qr_goto 58 rfl rfl ?_
      refine qr_retI rfl rfl (by decide) (by decide) ?_
      exact ⟨_, _, rfl, hI18, hF20, (v3 + v13), rfl, by omega⟩

set_option maxHeartbeats 4000000 in
set_option maxRecDepth 20000 in
/-- OneRoofModel.nearOf -/
theorem sf_195_86 {L : Nat} {xs : Nat → Int} {vb : Bool} {d : Nat} {σ α : Nat → Nat → Int} {κ : Nat → Option Nat} {ρ : Nat} {x1 : Int} {x2 : Int} {x3 : Int} (hI : qI σ α κ ρ) (r1 : 0 ≤ x1 ∧ x1 ≤ 31) (r2 : 0 ≤ x2 ∧ x2 ≤ 31) (r3 : (-2147483648) ≤ x3 ∧ x3 ≤ 2147483647) : qm_T (qe L xs vb) (d + 5) 195 [.ref 86, .int (qz x1), .int (qz x2), .int (qz x3)] (qw σ α κ ρ) (fun r w' => ∃ σ' α', w' = qw σ' α' κ ρ ∧ qI σ' α' κ ρ ∧ qFr [(86, 15), (86, 23)] [96] σ α σ' α' ∧ ∃ v : Int, r = some (.int (qz v)) ∧ ((-2147483648) ≤ v ∧ v ≤ 2147483647)) := by
  refine qr_start (d := d + 4) qv_e195 (Nat.le_of_ble_eq_true rfl) ?_
  show qr_W (qe L xs vb) (d + 4) qx_e195 _ (0, [(0, .ref 86), (1, .int (qz x1)), (2, .int (qz x2)), (3, .int (qz x3))], [], _, 0, 0)
  have hF0 := qFr_rf [(86, 15), (86, 23)] [96] σ α
  refine qr_bipush 2 rfl (by decide) rfl ?_
  refine qr_istore _ 4 rfl (by decide) rfl rfl ?_
  refine qr_iconst 5 rfl rfl ?_
  refine qr_istore _ 7 rfl (by decide) rfl rfl ?_
  have hL1231 : ∀ (n : Nat) (ls : qm_L) (u1222 u1224 : Int) (σ1225 α1226 : Nat → Nat → Int), 40 - u1224 < (n : Int) → qm_get ls 0 = some (.ref 86) → qm_get ls 1 = some (.int (qz x1)) → qm_get ls 2 = some (.int (qz x2)) → qm_get ls 3 = some (.int (qz x3)) → qm_get ls 4 = some (.int (qz u1222)) → qm_get ls 5 = some (.int (qz u1224)) → (0 ≤ u1222 ∧ u1222 ≤ 99) → (0 ≤ u1224 ∧ u1224 ≤ 40) → qI σ1225 α1226 κ ρ → qFr [(86, 15), (86, 23)] [96] σ α σ1225 α1226 → qr_W (qe L xs vb) (d + 4) qx_e195 (fun r w' => ∃ σ' α', w' = qw σ' α' κ ρ ∧ qI σ' α' κ ρ ∧ qFr [(86, 15), (86, 23)] [96] σ α σ' α' ∧ ∃ v : Int, r = some (.int (qz v)) ∧ ((-2147483648) ≤ v ∧ v ≤ 2147483647)) (7, ls, [], qw σ1225 α1226 κ ρ, 0, 0) := by
    intro n
    induction n with
    | zero => intro ls u1222 u1224 σ1225 α1226 hm g1217 g1218 g1219 g1220 g1221 g1223 hf1229 hf1230 hI1227 hF1228; exact False.elim (by omega)
    | succ n ih1232 =>
      intro ls u1222 u1224 σ1225 α1226 hm g1217 g1218 g1219 g1220 g1221 g1223 hf1229 hf1230 hI1227 hF1228
      refine qr_iload 9 rfl g1223 rfl ?_
      refine qr_aload_n 10 rfl g1217 rfl ?_
      refine qr_get 13 rfl rfl rfl (by decide) rfl ?_
      have hs1233 : 0 ≤ σ1225 86 16 ∧ σ1225 86 16 ≤ 40 := hI1227.1 86 16
      refine qr_icmp_ge 93 16 rfl rfl rfl (by omega) (by omega) (fun h1234 => ?_) (fun h1234 => ?_)
      · skip
        refine qr_iload 95 rfl g1221 rfl ?_
        refine qr_retI rfl rfl (by decide) (by decide) ?_
        exact ⟨_, _, rfl, hI1227, hF1228, u1222, rfl, by omega⟩
      · skip
        refine qr_iload_n 17 rfl g1218 rfl ?_
        refine qr_iload_n 18 rfl g1219 rfl ?_
        refine qr_icmp_eq 93 21 rfl rfl rfl (by omega) (by omega) (fun h1235 => ?_) (fun h1235 => ?_)
        · skip
          refine qr_iload 95 rfl g1221 rfl ?_
          refine qr_retI rfl rfl (by decide) (by decide) ?_
          exact ⟨_, _, rfl, hI1227, hF1228, u1222, rfl, by omega⟩
        · skip
          refine qr_aload_n 22 rfl g1217 rfl ?_
          refine qr_iload 24 rfl g1223 rfl ?_
          refine qr_iload_n 25 rfl g1220 rfl ?_
          refine qr_callN 28 rfl rfl rfl (sf_196_86 (d := d + 3) hI1227 (by omega) (by omega)) ?_
          rintro _ _ ⟨rfl, v1236, rfl, hv1236⟩
          show qr_W (qe L xs vb) (d + 4) qx_e195 _ (28, _, [.int (qz v1236)], qw σ1225 α1226 κ ρ, 0, 0)
          have hJ1273 : ∀ (ls : qm_L) (u1265 : Int) (σ1267 α1268 : Nat → Nat → Int), qm_get ls 0 = some (.ref 86) → qm_get ls 1 = some (.int (qz x1)) → qm_get ls 2 = some (.int (qz x2)) → qm_get ls 3 = some (.int (qz x3)) → qm_get ls 4 = some (.int (qz u1265)) → qm_get ls 5 = some (.int (qz u1224)) → (0 ≤ u1265 ∧ u1265 ≤ 99) → qI σ1267 α1268 κ ρ → qFr [(86, 15), (86, 23)] [96] σ α σ1267 α1268 → σ1267 86 16 = (σ1225 86 16) → qr_W (qe L xs vb) (d + 4) qx_e195 (fun r w' => ∃ σ' α', w' = qw σ' α' κ ρ ∧ qI σ' α' κ ρ ∧ qFr [(86, 15), (86, 23)] [96] σ α σ' α' ∧ ∃ v : Int, r = some (.int (qz v)) ∧ ((-2147483648) ≤ v ∧ v ≤ 2147483647)) (87, ls, [], qw σ1267 α1268 κ ρ, 0, 0) := by
            intro ls u1265 σ1267 α1268 g1260 g1261 g1262 g1263 g1264 g1266 hf1272 hI1269 hF1270 hk1271
            refine qr_iinc _ 90 rfl g1266 (by decide) rfl rfl ?_
            refine qr_goto 7 rfl rfl ?_
            exact ih1232 _ u1265 (u1224 + 1) σ1267 α1268 (by omega) (qm_gk g1260 (by decide) (Or.inl (by decide))) (qm_gk g1261 (by decide) (Or.inl (by decide))) (qm_gk g1262 (by decide) (Or.inl (by decide))) (qm_gk g1263 (by decide) (Or.inl (by decide))) (qm_gk g1264 (by decide) (Or.inr rfl)) (qm_ge _ _ _) (by omega) (by omega) hI1269 hF1270
          refine qr_if_ne 34 31 rfl rfl rfl (by omega) (fun h1274 => ?_) (fun h1274 => ?_)
          · skip
            refine qr_aload_n 35 rfl g1217 rfl ?_
            refine qr_iload 37 rfl g1223 rfl ?_
            refine qr_iload_n 38 rfl g1218 rfl ?_
            refine qr_iload_n 39 rfl g1219 rfl ?_
            refine qr_callN 42 rfl rfl rfl (sf_197_86 (d := d + 0) hI1227 (by omega) (by omega) (by omega)) ?_
            rintro _ _ ⟨σ1276, α1277, rfl, hI1278, hG1279, v1275, rfl, hv1275⟩
            have hF1280 : qFr [(86, 15), (86, 23)] [96] σ α σ1276 α1277 := qFr_t hF1228 hG1279 (by decide) (by decide)
            show qr_W (qe L xs vb) (d + 4) qx_e195 _ (42, _, [.int (qz v1275)], qw σ1276 α1277 κ ρ, 0, 0)
            refine qr_istore _ 44 rfl (by decide) rfl rfl ?_
            refine qr_aload_n 45 rfl (qm_gk g1217 (by decide) (Or.inl (by decide))) rfl ?_
            refine qr_iload 47 rfl (qm_gk g1223 (by decide) (Or.inr rfl)) rfl ?_
            refine qr_iload_n 48 rfl (qm_gk g1219 (by decide) (Or.inl (by decide))) rfl ?_
            refine qr_iload_n 49 rfl (qm_gk g1218 (by decide) (Or.inl (by decide))) rfl ?_
            refine qr_callN 52 rfl rfl rfl (sf_197_86 (d := d + 0) hI1278 (by omega) (by omega) (by omega)) ?_
            rintro _ _ ⟨σ1282, α1283, rfl, hI1284, hG1285, v1281, rfl, hv1281⟩
            have hF1286 : qFr [(86, 15), (86, 23)] [96] σ α σ1282 α1283 := qFr_t hF1280 hG1285 (by decide) (by decide)
            show qr_W (qe L xs vb) (d + 4) qx_e195 _ (52, _, [.int (qz v1281)], qw σ1282 α1283 κ ρ, 0, 0)
            refine qr_istore _ 54 rfl (by decide) rfl rfl ?_
            refine qr_iload 56 rfl (qm_gk (qm_ge _ _ _) (by decide) (Or.inr rfl)) rfl ?_
            refine qr_iload 58 rfl (qm_ge _ _ _) rfl ?_
            have hJ1295 : ∀ (ls : qm_L) (u1293 : Int), qm_get ls 0 = some (.ref 86) → qm_get ls 1 = some (.int (qz x1)) → qm_get ls 2 = some (.int (qz x2)) → qm_get ls 3 = some (.int (qz x3)) → qm_get ls 4 = some (.int (qz u1222)) → qm_get ls 5 = some (.int (qz u1224)) → (0 ≤ u1293 ∧ u1293 ≤ 198) → qr_W (qe L xs vb) (d + 4) qx_e195 (fun r w' => ∃ σ' α', w' = qw σ' α' κ ρ ∧ qI σ' α' κ ρ ∧ qFr [(86, 15), (86, 23)] [96] σ α σ' α' ∧ ∃ v : Int, r = some (.int (qz v)) ∧ ((-2147483648) ≤ v ∧ v ≤ 2147483647)) (68, ls, [.int (qz u1293)], qw σ1282 α1283 κ ρ, 0, 0) := by
              intro ls u1293 g1287 g1288 g1289 g1290 g1291 g1292 hf1294
              refine qr_istore _ 70 rfl (by decide) rfl rfl ?_
              refine qr_iload 72 rfl (qm_ge _ _ _) rfl ?_
              refine qr_iload 74 rfl (qm_gk g1291 (by decide) (Or.inl (by decide))) rfl ?_
              refine qr_icmp_ge 87 77 rfl rfl rfl (by omega) (by omega) (fun h1296 => ?_) (fun h1296 => ?_)
              · skip
                exact hJ1273 _ u1222 σ1282 α1283 (qm_gk g1287 (by decide) (Or.inl (by decide))) (qm_gk g1288 (by decide) (Or.inl (by decide))) (qm_gk g1289 (by decide) (Or.inl (by decide))) (qm_gk g1290 (by decide) (Or.inl (by decide))) (qm_gk g1291 (by decide) (Or.inl (by decide))) (qm_gk g1292 (by decide) (Or.inl (by decide))) (by omega) hI1284 hF1286 ((hG1285.1 86 16 (by decide)).trans ((hG1279.1 86 16 (by decide)).trans rfl))
              · skip
                refine qr_iload 79 rfl (qm_ge _ _ _) rfl ?_
                refine qr_istore _ 81 rfl (by decide) rfl rfl ?_
                refine qr_aload_n 82 rfl (qm_gk (qm_gk g1287 (by decide) (Or.inl (by decide))) (by decide) (Or.inl (by decide))) rfl ?_
                refine qr_iload 84 rfl (qm_gk (qm_gk g1292 (by decide) (Or.inl (by decide))) (by decide) (Or.inl (by decide))) rfl ?_
                refine qr_put 87 rfl (by decide) rfl (Nat.le_of_ble_eq_true rfl) (Nat.le_of_ble_eq_true rfl) (Or.inl rfl) (qr_fitI rfl _) rfl ?_
                refine qy_wS (qw_s σ1282 86 23 u1224) rfl (fun σ1297 e1298 => ?_)
                have hI1299 : qI σ1297 α1283 κ ρ := by rw [e1298]; exact qI_s hI1284 86 23 rfl (show (-2147483648) ≤ u1224 ∧ u1224 ≤ 2147483647 by omega)
                have hF1300 : qFr [(86, 15), (86, 23)] [96] σ α σ1297 α1283 := by rw [e1298]; exact qFr_s hF1286 86 23 _ (by decide)
                exact hJ1273 _ u1293 σ1297 α1283 (qm_gk (qm_gk g1287 (by decide) (Or.inl (by decide))) (by decide) (Or.inl (by decide))) (qm_gk (qm_gk g1288 (by decide) (Or.inl (by decide))) (by decide) (Or.inl (by decide))) (qm_gk (qm_gk g1289 (by decide) (Or.inl (by decide))) (by decide) (Or.inl (by decide))) (qm_gk (qm_gk g1290 (by decide) (Or.inl (by decide))) (by decide) (Or.inr rfl)) (qm_ge _ _ _) (qm_gk (qm_gk g1292 (by decide) (Or.inl (by decide))) (by decide) (Or.inl (by decide))) (by omega) hI1299 hF1300 ((congrFun (congrFun e1298 86) 16).trans ((hG1285.1 86 16 (by decide)).trans ((hG1279.1 86 16 (by decide)).trans rfl)))
            refine qr_icmp_ge 66 61 rfl rfl rfl (by omega) (by omega) (fun h1301 => ?_) (fun h1301 => ?_)
            · skip
              refine qr_iload 68 rfl (qm_ge _ _ _) rfl ?_
              exact hJ1295 _ v1281 (qm_gk (qm_gk g1217 (by decide) (Or.inl (by decide))) (by decide) (Or.inl (by decide))) (qm_gk (qm_gk g1218 (by decide) (Or.inl (by decide))) (by decide) (Or.inl (by decide))) (qm_gk (qm_gk g1219 (by decide) (Or.inl (by decide))) (by decide) (Or.inl (by decide))) (qm_gk (qm_gk g1220 (by decide) (Or.inl (by decide))) (by decide) (Or.inl (by decide))) (qm_gk (qm_gk g1221 (by decide) (Or.inl (by decide))) (by decide) (Or.inl (by decide))) (qm_gk (qm_gk g1223 (by decide) (Or.inr rfl)) (by decide) (Or.inl (by decide))) (by omega)
            · skip
              refine qr_iload 63 rfl (qm_gk (qm_ge _ _ _) (by decide) (Or.inr rfl)) rfl ?_
              refine qr_goto 68 rfl rfl ?_
              exact hJ1295 _ v1275 (qm_gk (qm_gk g1217 (by decide) (Or.inl (by decide))) (by decide) (Or.inl (by decide))) (qm_gk (qm_gk g1218 (by decide) (Or.inl (by decide))) (by decide) (Or.inl (by decide))) (qm_gk (qm_gk g1219 (by decide) (Or.inl (by decide))) (by decide) (Or.inl (by decide))) (qm_gk (qm_gk g1220 (by decide) (Or.inl (by decide))) (by decide) (Or.inl (by decide))) (qm_gk (qm_gk g1221 (by decide) (Or.inl (by decide))) (by decide) (Or.inl (by decide))) (qm_gk (qm_gk g1223 (by decide) (Or.inr rfl)) (by decide) (Or.inl (by decide))) (by omega)
          · skip
            refine qr_goto 87 rfl rfl ?_
            exact hJ1273 _ u1222 σ1225 α1226 g1217 g1218 g1219 g1220 g1221 g1223 (by omega) hI1227 hF1228 (rfl)
  exact hL1231 ((40 - 0 + 1 : Int)).toNat _ 99 0 σ α (by omega) rfl rfl rfl rfl rfl rfl (by omega) (by omega) hI hF0

set_option maxHeartbeats 4000000 in
set_option maxRecDepth 20000 in
/-- OneRoofModel.near -/
theorem sf_194_86 {L : Nat} {xs : Nat → Int} {vb : Bool} {d : Nat} {σ α : Nat → Nat → Int} {κ : Nat → Option Nat} {ρ : Nat} {x1 : Int} {x2 : Int} {x3 : Int} {x4 : Int} (hI : qI σ α κ ρ) (r1 : (-2147483648) ≤ x1 ∧ x1 ≤ 2147483647) (r2 : (-2147483648) ≤ x2 ∧ x2 ≤ 2147483647) (r3 : (-2147483648) ≤ x3 ∧ x3 ≤ 2147483647) (r4 : (-2147483648) ≤ x4 ∧ x4 ≤ 2147483647) : qm_T (qe L xs vb) (d + 6) 194 [.ref 86, .int (qz x1), .int (qz x2), .int (qz x3), .int (qz x4)] (qw σ α κ ρ) (fun r w' => ∃ σ' α', w' = qw σ' α' κ ρ ∧ qI σ' α' κ ρ ∧ qFr [(86, 15), (86, 23)] [96] σ α σ' α' ∧ ∃ v : Int, r = some (.int (qz v)) ∧ ((-2147483648) ≤ v ∧ v ≤ 2147483647)) := by
  refine qr_start (d := d + 5) qv_e194 (Nat.le_of_ble_eq_true rfl) ?_
  show qr_W (qe L xs vb) (d + 5) qx_e194 _ (0, [(0, .ref 86), (1, .int (qz x1)), (2, .int (qz x2)), (3, .int (qz x3)), (4, .int (qz x4))], [], _, 0, 0)
  have hF0 := qFr_rf [(86, 15), (86, 23)] [96] σ α
  refine qr_aload_n 1 rfl rfl rfl ?_
  refine qr_iload_n 2 rfl rfl rfl ?_
  refine qr_callN 5 rfl rfl rfl (sf_180_86 (d := d + 3) hI (by omega)) ?_
  have hs3 : 0 ≤ σ 86 6 ∧ σ 86 6 ≤ 32 := hI.1 86 6
  rintro _ _ ⟨rfl, v1, rfl, hv1, hp2⟩
  show qr_W (qe L xs vb) (d + 5) qx_e194 _ (5, _, [.int (qz v1)], qw σ α κ ρ, 0, 0)
  refine qr_if_eq 34 8 rfl rfl rfl (by omega) (fun h4 => ?_) (fun h4 => ?_)
  · skip
    refine qr_iconst 35 rfl rfl ?_
    refine qr_retI rfl rfl (by decide) (by decide) ?_
    exact ⟨_, _, rfl, hI, hF0, (-1), rfl, by omega⟩
  · skip
    refine qr_aload_n 9 rfl rfl rfl ?_
    refine qr_iload_n 10 rfl rfl rfl ?_
    refine qr_callN 13 rfl rfl rfl (sf_180_86 (d := d + 3) hI (by omega)) ?_
    have hs7 : 0 ≤ σ 86 6 ∧ σ 86 6 ≤ 32 := hI.1 86 6
    rintro _ _ ⟨rfl, v5, rfl, hv5, hp6⟩
    show qr_W (qe L xs vb) (d + 5) qx_e194 _ (13, _, [.int (qz v5)], qw σ α κ ρ, 0, 0)
    refine qr_if_eq 34 16 rfl rfl rfl (by omega) (fun h8 => ?_) (fun h8 => ?_)
    · skip
      refine qr_iconst 35 rfl rfl ?_
      refine qr_retI rfl rfl (by decide) (by decide) ?_
      exact ⟨_, _, rfl, hI, hF0, (-1), rfl, by omega⟩
    · skip
      refine qr_iload_n 17 rfl rfl rfl ?_
      refine qr_callN 20 rfl rfl rfl (sf_192 (d := d + 3) hI (by omega)) ?_
      rintro _ _ ⟨rfl, v9, rfl, hv9, hp10⟩
      show qr_W (qe L xs vb) (d + 5) qx_e194 _ (20, _, [.int (qz v9)], qw σ α κ ρ, 0, 0)
      refine qr_if_eq 34 23 rfl rfl rfl (by omega) (fun h11 => ?_) (fun h11 => ?_)
      · skip
        refine qr_iconst 35 rfl rfl ?_
        refine qr_retI rfl rfl (by decide) (by decide) ?_
        exact ⟨_, _, rfl, hI, hF0, (-1), rfl, by omega⟩
      · skip
        refine qr_iload 25 rfl rfl rfl ?_
        refine qr_i2l 26 rfl (by omega) rfl ?_
        refine qr_lconst 27 rfl rfl ?_
        refine qy_vl 0 rfl ?_
        refine qr_lconst 28 rfl rfl ?_
        refine qy_vl 1 rfl ?_
        refine qr_callN 31 rfl rfl rfl (sf_176 (d := d + 4) hI (by omega) (by omega) (by omega)) ?_
        rintro _ _ ⟨rfl, v12, rfl, hv12, hp13⟩
        show qr_W (qe L xs vb) (d + 5) qx_e194 _ (31, _, [.int (qz v12)], qw σ α κ ρ, 0, 0)
        refine qr_if_ne 36 34 rfl rfl rfl (by omega) (fun h14 => ?_) (fun h14 => ?_)
        · skip
          refine qr_aload_n 37 rfl rfl rfl ?_
          refine qr_iload_n 38 rfl rfl rfl ?_
          refine qr_iload_n 39 rfl rfl rfl ?_
          refine qr_iload_n 40 rfl rfl rfl ?_
          refine qr_callN 43 rfl rfl rfl (sf_195_86 (d := d + 0) hI (by omega) (by omega) (by omega)) ?_
          rintro _ _ ⟨σ16, α17, rfl, hI18, hG19, v15, rfl, hv15⟩
          have hF20 : qFr [(86, 15), (86, 23)] [96] σ α σ16 α17 := qFr_t hF0 hG19 (by decide) (by decide)
          show qr_W (qe L xs vb) (d + 5) qx_e194 _ (43, _, [.int (qz v15)], qw σ16 α17 κ ρ, 0, 0)
          refine qr_istore _ 45 rfl (by decide) rfl rfl ?_
          refine qr_iload 47 rfl rfl rfl ?_
          refine qr_bipush 49 rfl (by decide) rfl ?_
          refine qr_icmp_ne 57 52 rfl rfl rfl (by omega) (by omega) (fun h21 => ?_) (fun h21 => ?_)
          · skip
            refine qr_iload 59 rfl rfl rfl ?_
            refine qr_if_ne 67 62 rfl rfl rfl (by omega) (fun h22 => ?_) (fun h22 => ?_)
            · skip
              refine qr_aload_n 68 rfl rfl rfl ?_
              refine qr_get 71 rfl rfl rfl (by decide) rfl ?_
              have hs23 : (-2147483648) ≤ σ16 86 23 ∧ σ16 86 23 ≤ 2147483647 := hI18.1 86 23
              refine qr_retI rfl rfl (by decide) (by decide) ?_
              exact ⟨_, _, rfl, hI18, hF20, (σ16 86 23), rfl, by omega⟩
            · skip
              refine qr_iload 64 rfl rfl rfl ?_
              refine qr_goto 71 rfl rfl ?_
              refine qr_retI rfl rfl (by decide) (by decide) ?_
              exact ⟨_, _, rfl, hI18, hF20, v15, rfl, by omega⟩
          · skip
            refine qr_bipush 54 rfl (by decide) rfl ?_
            refine qr_goto 71 rfl rfl ?_
            refine qr_retI rfl rfl (by decide) (by decide) ?_
            exact ⟨_, _, rfl, hI18, hF20, (-2), rfl, by omega⟩
        · skip
          refine qr_iconst 35 rfl rfl ?_
          refine qr_retI rfl rfl (by decide) (by decide) ?_
          exact ⟨_, _, rfl, hI, hF0, (-1), rfl, by omega⟩

