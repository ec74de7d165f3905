theorem qf_app {a b : qm_C} {pc m : Nat} {q : qm_I} (ha : a.all (fun q => decide (q.1 < m)) = true) (hm : m ≤ pc) (h : qm_fetch b pc = some q) : qm_fetch (a ++ b) pc = some q := by
  rw [qm_fetch_eq] at h ⊢
  rw [List.find?_append, List.find?_eq_none.mpr (fun q hq => ?_), Option.none_or, h]
  have h2 := List.all_eq_true.mp ha q hq
  rw [decide_eq_true_eq] at h2
  intro h3
  have h4 : q.1 = pc := by simpa using h3
  omega
theorem qf_here {a b : qm_C} {pc : Nat} {q : qm_I} (h : qm_fetch a pc = some q) : qm_fetch (a ++ b) pc = some q := by
  rw [qm_fetch_eq] at h ⊢
  rw [List.find?_append, h]
  rfl
theorem qa_0 : qx_c0_0.all (fun q => decide (q.1 < 242)) = true := by decide +kernel
theorem qa_1 : qx_c0_1.all (fun q => decide (q.1 < 302)) = true := by decide +kernel
theorem qa_2 : qx_c0_2.all (fun q => decide (q.1 < 364)) = true := by decide +kernel
theorem qa_3 : qx_c0_3.all (fun q => decide (q.1 < 422)) = true := by decide +kernel
theorem qa_4 : qx_c0_4.all (fun q => decide (q.1 < 482)) = true := by decide +kernel
theorem qa_5 : qx_c0_5.all (fun q => decide (q.1 < 540)) = true := by decide +kernel
theorem qa_6 : qx_c0_6.all (fun q => decide (q.1 < 599)) = true := by decide +kernel
theorem qa_7 : qx_c0_7.all (fun q => decide (q.1 < 658)) = true := by decide +kernel
theorem qa_8 : qx_c0_8.all (fun q => decide (q.1 < 718)) = true := by decide +kernel
theorem qa_9 : qx_c0_9.all (fun q => decide (q.1 < 776)) = true := by decide +kernel
theorem qa_10 : qx_c0_10.all (fun q => decide (q.1 < 836)) = true := by decide +kernel
theorem qa_11 : qx_c0_11.all (fun q => decide (q.1 < 899)) = true := by decide +kernel
theorem qa_12 : qx_c0_12.all (fun q => decide (q.1 < 960)) = true := by decide +kernel
theorem qa_13 : qx_c0_13.all (fun q => decide (q.1 < 1018)) = true := by decide +kernel
theorem qa_14 : qx_c0_14.all (fun q => decide (q.1 < 1081)) = true := by decide +kernel
theorem qa_15 : qx_c0_15.all (fun q => decide (q.1 < 1139)) = true := by decide +kernel
theorem qa_16 : qx_c0_16.all (fun q => decide (q.1 < 1201)) = true := by decide +kernel
theorem qa_17 : qx_c0_17.all (fun q => decide (q.1 < 1261)) = true := by decide +kernel
theorem qa_18 : qx_c0_18.all (fun q => decide (q.1 < 1320)) = true := by decide +kernel
theorem qa_19 : qx_c0_19.all (fun q => decide (q.1 < 1381)) = true := by decide +kernel
theorem qa_20 : qx_c0_20.all (fun q => decide (q.1 < 1439)) = true := by decide +kernel
theorem qa_21 : qx_c0_21.all (fun q => decide (q.1 < 1498)) = true := by decide +kernel
theorem qa_22 : qx_c0_22.all (fun q => decide (q.1 < 1567)) = true := by decide +kernel
theorem qa_23 : qx_c0_23.all (fun q => decide (q.1 < 1626)) = true := by decide +kernel
theorem qa_24 : qx_c0_24.all (fun q => decide (q.1 < 1694)) = true := by decide +kernel
theorem qa_25 : qx_c0_25.all (fun q => decide (q.1 < 1756)) = true := by decide +kernel
theorem qa_26 : qx_c0_26.all (fun q => decide (q.1 < 1816)) = true := by decide +kernel
theorem qa_27 : qx_c0_27.all (fun q => decide (q.1 < 1872)) = true := by decide +kernel
theorem qa_28 : qx_c0_28.all (fun q => decide (q.1 < 1934)) = true := by decide +kernel
theorem qa_29 : qx_c0_29.all (fun q => decide (q.1 < 1990)) = true := by decide +kernel
theorem qf_0 {pc : Nat} {q : qm_I} (hm : 0 ≤ pc) (h : qm_fetch qx_c0_0 pc = some q) : qm_fetch qx_e0.2.2.2.2.2.2.2 pc = some q := qf_here h
theorem qf_1 {pc : Nat} {q : qm_I} (hm : 242 ≤ pc) (h : qm_fetch qx_c0_1 pc = some q) : qm_fetch qx_e0.2.2.2.2.2.2.2 pc = some q := qf_app qa_0 (Nat.le_trans (by decide) hm) (qf_here h)
theorem qf_2 {pc : Nat} {q : qm_I} (hm : 302 ≤ pc) (h : qm_fetch qx_c0_2 pc = some q) : qm_fetch qx_e0.2.2.2.2.2.2.2 pc = some q := qf_app qa_0 (Nat.le_trans (by decide) hm) (qf_app qa_1 (Nat.le_trans (by decide) hm) (qf_here h))
theorem qf_3 {pc : Nat} {q : qm_I} (hm : 364 ≤ pc) (h : qm_fetch qx_c0_3 pc = some q) : qm_fetch qx_e0.2.2.2.2.2.2.2 pc = some q := qf_app qa_0 (Nat.le_trans (by decide) hm) (qf_app qa_1 (Nat.le_trans (by decide) hm) (qf_app qa_2 (Nat.le_trans (by decide) hm) (qf_here h)))
theorem qf_4 {pc : Nat} {q : qm_I} (hm : 422 ≤ pc) (h : qm_fetch qx_c0_4 pc = some q) : qm_fetch qx_e0.2.2.2.2.2.2.2 pc = some q := qf_app qa_0 (Nat.le_trans (by decide) hm) (qf_app qa_1 (Nat.le_trans (by decide) hm) (qf_app qa_2 (Nat.le_trans (by decide) hm) (qf_app qa_3 (Nat.le_trans (by decide) hm) (qf_here h))))
theorem qf_5 {pc : Nat} {q : qm_I} (hm : 482 ≤ pc) (h : qm_fetch qx_c0_5 pc = some q) : qm_fetch qx_e0.2.2.2.2.2.2.2 pc = some q := qf_app qa_0 (Nat.le_trans (by decide) hm) (qf_app qa_1 (Nat.le_trans (by decide) hm) (qf_app qa_2 (Nat.le_trans (by decide) hm) (qf_app qa_3 (Nat.le_trans (by decide) hm) (qf_app qa_4 (Nat.le_trans (by decide) hm) (qf_here h)))))
theorem qf_6 {pc : Nat} {q : qm_I} (hm : 540 ≤ pc) (h : qm_fetch qx_c0_6 pc = some q) : qm_fetch qx_e0.2.2.2.2.2.2.2 pc = some q := qf_app qa_0 (Nat.le_trans (by decide) hm) (qf_app qa_1 (Nat.le_trans (by decide) hm) (qf_app qa_2 (Nat.le_trans (by decide) hm) (qf_app qa_3 (Nat.le_trans (by decide) hm) (qf_app qa_4 (Nat.le_trans (by decide) hm) (qf_app qa_5 (Nat.le_trans (by decide) hm) (qf_here h))))))
theorem qf_7 {pc : Nat} {q : qm_I} (hm : 599 ≤ pc) (h : qm_fetch qx_c0_7 pc = some q) : qm_fetch qx_e0.2.2.2.2.2.2.2 pc = some q := qf_app qa_0 (Nat.le_trans (by decide) hm) (qf_app qa_1 (Nat.le_trans (by decide) hm) (qf_app qa_2 (Nat.le_trans (by decide) hm) (qf_app qa_3 (Nat.le_trans (by decide) hm) (qf_app qa_4 (Nat.le_trans (by decide) hm) (qf_app qa_5 (Nat.le_trans (by decide) hm) (qf_app qa_6 (Nat.le_trans (by decide) hm) (qf_here h)))))))
theorem qf_8 {pc : Nat} {q : qm_I} (hm : 658 ≤ pc) (h : qm_fetch qx_c0_8 pc = some q) : qm_fetch qx_e0.2.2.2.2.2.2.2 pc = some q := qf_app qa_0 (Nat.le_trans (by decide) hm) (qf_app qa_1 (Nat.le_trans (by decide) hm) (qf_app qa_2 (Nat.le_trans (by decide) hm) (qf_app qa_3 (Nat.le_trans (by decide) hm) (qf_app qa_4 (Nat.le_trans (by decide) hm) (qf_app qa_5 (Nat.le_trans (by decide) hm) (qf_app qa_6 (Nat.le_trans (by decide) hm) (qf_app qa_7 (Nat.le_trans (by decide) hm) (qf_here h))))))))
theorem qf_9 {pc : Nat} {q : qm_I} (hm : 718 ≤ pc) (h : qm_fetch qx_c0_9 pc = some q) : qm_fetch qx_e0.2.2.2.2.2.2.2 pc = some q := qf_app qa_0 (Nat.le_trans (by decide) hm) (qf_app qa_1 (Nat.le_trans (by decide) hm) (qf_app qa_2 (Nat.le_trans (by decide) hm) (qf_app qa_3 (Nat.le_trans (by decide) hm) (qf_app qa_4 (Nat.le_trans (by decide) hm) (qf_app qa_5 (Nat.le_trans (by decide) hm) (qf_app qa_6 (Nat.le_trans (by decide) hm) (qf_app qa_7 (Nat.le_trans (by decide) hm) (qf_app qa_8 (Nat.le_trans (by decide) hm) (qf_here h)))))))))
theorem qf_10 {pc : Nat} {q : qm_I} (hm : 776 ≤ pc) (h : qm_fetch qx_c0_10 pc = some q) : qm_fetch qx_e0.2.2.2.2.2.2.2 pc = some q := qf_app qa_0 (Nat.le_trans (by decide) hm) (qf_app qa_1 (Nat.le_trans (by decide) hm) (qf_app qa_2 (Nat.le_trans (by decide) hm) (qf_app qa_3 (Nat.le_trans (by decide) hm) (qf_app qa_4 (Nat.le_trans (by decide) hm) (qf_app qa_5 (Nat.le_trans (by decide) hm) (qf_app qa_6 (Nat.le_trans (by decide) hm) (qf_app qa_7 (Nat.le_trans (by decide) hm) (qf_app qa_8 (Nat.le_trans (by decide) hm) (qf_app qa_9 (Nat.le_trans (by decide) hm) (qf_here h))))))))))
theorem qf_11 {pc : Nat} {q : qm_I} (hm : 836 ≤ pc) (h : qm_fetch qx_c0_11 pc = some q) : qm_fetch qx_e0.2.2.2.2.2.2.2 pc = some q := qf_app qa_0 (Nat.le_trans (by decide) hm) (qf_app qa_1 (Nat.le_trans (by decide) hm) (qf_app qa_2 (Nat.le_trans (by decide) hm) (qf_app qa_3 (Nat.le_trans (by decide) hm) (qf_app qa_4 (Nat.le_trans (by decide) hm) (qf_app qa_5 (Nat.le_trans (by decide) hm) (qf_app qa_6 (Nat.le_trans (by decide) hm) (qf_app qa_7 (Nat.le_trans (by decide) hm) (qf_app qa_8 (Nat.le_trans (by decide) hm) (qf_app qa_9 (Nat.le_trans (by decide) hm) (qf_app qa_10 (Nat.le_trans (by decide) hm) (qf_here h)))))))))))
theorem qf_12 {pc : Nat} {q : qm_I} (hm : 899 ≤ pc) (h : qm_fetch qx_c0_12 pc = some q) : qm_fetch qx_e0.2.2.2.2.2.2.2 pc = some q := qf_app qa_0 (Nat.le_trans (by decide) hm) (qf_app qa_1 (Nat.le_trans (by decide) hm) (qf_app qa_2 (Nat.le_trans (by decide) hm) (qf_app qa_3 (Nat.le_trans (by decide) hm) (qf_app qa_4 (Nat.le_trans (by decide) hm) (qf_app qa_5 (Nat.le_trans (by decide) hm) (qf_app qa_6 (Nat.le_trans (by decide) hm) (qf_app qa_7 (Nat.le_trans (by decide) hm) (qf_app qa_8 (Nat.le_trans (by decide) hm) (qf_app qa_9 (Nat.le_trans (by decide) hm) (qf_app qa_10 (Nat.le_trans (by decide) hm) (qf_app qa_11 (Nat.le_trans (by decide) hm) (qf_here h))))))))))))
theorem qf_13 {pc : Nat} {q : qm_I} (hm : 960 ≤ pc) (h : qm_fetch qx_c0_13 pc = some q) : qm_fetch qx_e0.2.2.2.2.2.2.2 pc = some q := qf_app qa_0 (Nat.le_trans (by decide) hm) (qf_app qa_1 (Nat.le_trans (by decide) hm) (qf_app qa_2 (Nat.le_trans (by decide) hm) (qf_app qa_3 (Nat.le_trans (by decide) hm) (qf_app qa_4 (Nat.le_trans (by decide) hm) (qf_app qa_5 (Nat.le_trans (by decide) hm) (qf_app qa_6 (Nat.le_trans (by decide) hm) (qf_app qa_7 (Nat.le_trans (by decide) hm) (qf_app qa_8 (Nat.le_trans (by decide) hm) (qf_app qa_9 (Nat.le_trans (by decide) hm) (qf_app qa_10 (Nat.le_trans (by decide) hm) (qf_app qa_11 (Nat.le_trans (by decide) hm) (qf_app qa_12 (Nat.le_trans (by decide) hm) (qf_here h)))))))))))))
theorem qf_14 {pc : Nat} {q : qm_I} (hm : 1018 ≤ pc) (h : qm_fetch qx_c0_14 pc = some q) : qm_fetch qx_e0.2.2.2.2.2.2.2 pc = some q := qf_app qa_0 (Nat.le_trans (by decide) hm) (qf_app qa_1 (Nat.le_trans (by decide) hm) (qf_app qa_2 (Nat.le_trans (by decide) hm) (qf_app qa_3 (Nat.le_trans (by decide) hm) (qf_app qa_4 (Nat.le_trans (by decide) hm) (qf_app qa_5 (Nat.le_trans (by decide) hm) (qf_app qa_6 (Nat.le_trans (by decide) hm) (qf_app qa_7 (Nat.le_trans (by decide) hm) (qf_app qa_8 (Nat.le_trans (by decide) hm) (qf_app qa_9 (Nat.le_trans (by decide) hm) (qf_app qa_10 (Nat.le_trans (by decide) hm) (qf_app qa_11 (Nat.le_trans (by decide) hm) (qf_app qa_12 (Nat.le_trans (by decide) hm) (qf_app qa_13 (Nat.le_trans (by decide) hm) (qf_here h))))))))))))))
theorem qf_15 {pc : Nat} {q : qm_I} (hm : 1081 ≤ pc) (h : qm_fetch qx_c0_15 pc = some q) : qm_fetch qx_e0.2.2.2.2.2.2.2 pc = some q := qf_app qa_0 (Nat.le_trans (by decide) hm) (qf_app qa_1 (Nat.le_trans (by decide) hm) (qf_app qa_2 (Nat.le_trans (by decide) hm) (qf_app qa_3 (Nat.le_trans (by decide) hm) (qf_app qa_4 (Nat.le_trans (by decide) hm) (qf_app qa_5 (Nat.le_trans (by decide) hm) (qf_app qa_6 (Nat.le_trans (by decide) hm) (qf_app qa_7 (Nat.le_trans (by decide) hm) (qf_app qa_8 (Nat.le_trans (by decide) hm) (qf_app qa_9 (Nat.le_trans (by decide) hm) (qf_app qa_10 (Nat.le_trans (by decide) hm) (qf_app qa_11 (Nat.le_trans (by decide) hm) (qf_app qa_12 (Nat.le_trans (by decide) hm) (qf_app qa_13 (Nat.le_trans (by decide) hm) (qf_app qa_14 (Nat.le_trans (by decide) hm) (qf_here h)))))))))))))))
theorem qf_16 {pc : Nat} {q : qm_I} (hm : 1139 ≤ pc) (h : qm_fetch qx_c0_16 pc = some q) : qm_fetch qx_e0.2.2.2.2.2.2.2 pc = some q := qf_app qa_0 (Nat.le_trans (by decide) hm) (qf_app qa_1 (Nat.le_trans (by decide) hm) (qf_app qa_2 (Nat.le_trans (by decide) hm) (qf_app qa_3 (Nat.le_trans (by decide) hm) (qf_app qa_4 (Nat.le_trans (by decide) hm) (qf_app qa_5 (Nat.le_trans (by decide) hm) (qf_app qa_6 (Nat.le_trans (by decide) hm) (qf_app qa_7 (Nat.le_trans (by decide) hm) (qf_app qa_8 (Nat.le_trans (by decide) hm) (qf_app qa_9 (Nat.le_trans (by decide) hm) (qf_app qa_10 (Nat.le_trans (by decide) hm) (qf_app qa_11 (Nat.le_trans (by decide) hm) (qf_app qa_12 (Nat.le_trans (by decide) hm) (qf_app qa_13 (Nat.le_trans (by decide) hm) (qf_app qa_14 (Nat.le_trans (by decide) hm) (qf_app qa_15 (Nat.le_trans (by decide) hm) (qf_here h))))))))))))))))
theorem qf_17 {pc : Nat} {q : qm_I} (hm : 1201 ≤ pc) (h : qm_fetch qx_c0_17 pc = some q) : qm_fetch qx_e0.2.2.2.2.2.2.2 pc = some q := qf_app qa_0 (Nat.le_trans (by decide) hm) (qf_app qa_1 (Nat.le_trans (by decide) hm) (qf_app qa_2 (Nat.le_trans (by decide) hm) (qf_app qa_3 (Nat.le_trans (by decide) hm) (qf_app qa_4 (Nat.le_trans (by decide) hm) (qf_app qa_5 (Nat.le_trans (by decide) hm) (qf_app qa_6 (Nat.le_trans (by decide) hm) (qf_app qa_7 (Nat.le_trans (by decide) hm) (qf_app qa_8 (Nat.le_trans (by decide) hm) (qf_app qa_9 (Nat.le_trans (by decide) hm) (qf_app qa_10 (Nat.le_trans (by decide) hm) (qf_app qa_11 (Nat.le_trans (by decide) hm) (qf_app qa_12 (Nat.le_trans (by decide) hm) (qf_app qa_13 (Nat.le_trans (by decide) hm) (qf_app qa_14 (Nat.le_trans (by decide) hm) (qf_app qa_15 (Nat.le_trans (by decide) hm) (qf_app qa_16 (Nat.le_trans (by decide) hm) (qf_here h)))))))))))))))))
theorem qf_18 {pc : Nat} {q : qm_I} (hm : 1261 ≤ pc) (h : qm_fetch qx_c0_18 pc = some q) : qm_fetch qx_e0.2.2.2.2.2.2.2 pc = some q := qf_app qa_0 (Nat.le_trans (by decide) hm) (qf_app qa_1 (Nat.le_trans (by decide) hm) (qf_app qa_2 (Nat.le_trans (by decide) hm) (qf_app qa_3 (Nat.le_trans (by decide) hm) (qf_app qa_4 (Nat.le_trans (by decide) hm) (qf_app qa_5 (Nat.le_trans (by decide) hm) (qf_app qa_6 (Nat.le_trans (by decide) hm) (qf_app qa_7 (Nat.le_trans (by decide) hm) (qf_app qa_8 (Nat.le_trans (by decide) hm) (qf_app qa_9 (Nat.le_trans (by decide) hm) (qf_app qa_10 (Nat.le_trans (by decide) hm) (qf_app qa_11 (Nat.le_trans (by decide) hm) (qf_app qa_12 (Nat.le_trans (by decide) hm) (qf_app qa_13 (Nat.le_trans (by decide) hm) (qf_app qa_14 (Nat.le_trans (by decide) hm) (qf_app qa_15 (Nat.le_trans (by decide) hm) (qf_app qa_16 (Nat.le_trans (by decide) hm) (qf_app qa_17 (Nat.le_trans (by decide) hm) (qf_here h))))))))))))))))))
theorem qf_19 {pc : Nat} {q : qm_I} (hm : 1320 ≤ pc) (h : qm_fetch qx_c0_19 pc = some q) : qm_fetch qx_e0.2.2.2.2.2.2.2 pc = some q := qf_app qa_0 (Nat.le_trans (by decide) hm) (qf_app qa_1 (Nat.le_trans (by decide) hm) (qf_app qa_2 (Nat.le_trans (by decide) hm) (qf_app qa_3 (Nat.le_trans (by decide) hm) (qf_app qa_4 (Nat.le_trans (by decide) hm) (qf_app qa_5 (Nat.le_trans (by decide) hm) (qf_app qa_6 (Nat.le_trans (by decide) hm) (qf_app qa_7 (Nat.le_trans (by decide) hm) (qf_app qa_8 (Nat.le_trans (by decide) hm) (qf_app qa_9 (Nat.le_trans (by decide) hm) (qf_app qa_10 (Nat.le_trans (by decide) hm) (qf_app qa_11 (Nat.le_trans (by decide) hm) (qf_app qa_12 (Nat.le_trans (by decide) hm) (qf_app qa_13 (Nat.le_trans (by decide) hm) (qf_app qa_14 (Nat.le_trans (by decide) hm) (qf_app qa_15 (Nat.le_trans (by decide) hm) (qf_app qa_16 (Nat.le_trans (by decide) hm) (qf_app qa_17 (Nat.le_trans (by decide) hm) (qf_app qa_18 (Nat.le_trans (by decide) hm) (qf_here h)))))))))))))))))))
theorem qf_20 {pc : Nat} {q : qm_I} (hm : 1381 ≤ pc) (h : qm_fetch qx_c0_20 pc = some q) : qm_fetch qx_e0.2.2.2.2.2.2.2 pc = some q := qf_app qa_0 (Nat.le_trans (by decide) hm) (qf_app qa_1 (Nat.le_trans (by decide) hm) (qf_app qa_2 (Nat.le_trans (by decide) hm) (qf_app qa_3 (Nat.le_trans (by decide) hm) (qf_app qa_4 (Nat.le_trans (by decide) hm) (qf_app qa_5 (Nat.le_trans (by decide) hm) (qf_app qa_6 (Nat.le_trans (by decide) hm) (qf_app qa_7 (Nat.le_trans (by decide) hm) (qf_app qa_8 (Nat.le_trans (by decide) hm) (qf_app qa_9 (Nat.le_trans (by decide) hm) (qf_app qa_10 (Nat.le_trans (by decide) hm) (qf_app qa_11 (Nat.le_trans (by decide) hm) (qf_app qa_12 (Nat.le_trans (by decide) hm) (qf_app qa_13 (Nat.le_trans (by decide) hm) (qf_app qa_14 (Nat.le_trans (by decide) hm) (qf_app qa_15 (Nat.le_trans (by decide) hm) (qf_app qa_16 (Nat.le_trans (by decide) hm) (qf_app qa_17 (Nat.le_trans (by decide) hm) (qf_app qa_18 (Nat.le_trans (by decide) hm) (qf_app qa_19 (Nat.le_trans (by decide) hm) (qf_here h))))))))))))))))))))
theorem qf_21 {pc : Nat} {q : qm_I} (hm : 1439 ≤ pc) (h : qm_fetch qx_c0_21 pc = some q) : qm_fetch qx_e0.2.2.2.2.2.2.2 pc = some q := qf_app qa_0 (Nat.le_trans (by decide) hm) (qf_app qa_1 (Nat.le_trans (by decide) hm) (qf_app qa_2 (Nat.le_trans (by decide) hm) (qf_app qa_3 (Nat.le_trans (by decide) hm) (qf_app qa_4 (Nat.le_trans (by decide) hm) (qf_app qa_5 (Nat.le_trans (by decide) hm) (qf_app qa_6 (Nat.le_trans (by decide) hm) (qf_app qa_7 (Nat.le_trans (by decide) hm) (qf_app qa_8 (Nat.le_trans (by decide) hm) (qf_app qa_9 (Nat.le_trans (by decide) hm) (qf_app qa_10 (Nat.le_trans (by decide) hm) (qf_app qa_11 (Nat.le_trans (by decide) hm) (qf_app qa_12 (Nat.le_trans (by decide) hm) (qf_app qa_13 (Nat.le_trans (by decide) hm) (qf_app qa_14 (Nat.le_trans (by decide) hm) (qf_app qa_15 (Nat.le_trans (by decide) hm) (qf_app qa_16 (Nat.le_trans (by decide) hm) (qf_app qa_17 (Nat.le_trans (by decide) hm) (qf_app qa_18 (Nat.le_trans (by decide) hm) (qf_app qa_19 (Nat.le_trans (by decide) hm) (qf_app qa_20 (Nat.le_trans (by decide) hm) (qf_here h)))))))))))))))))))))
theorem qf_22 {pc : Nat} {q : qm_I} (hm : 1498 ≤ pc) (h : qm_fetch qx_c0_22 pc = some q) : qm_fetch qx_e0.2.2.2.2.2.2.2 pc = some q := qf_app qa_0 (Nat.le_trans (by decide) hm) (qf_app qa_1 (Nat.le_trans (by decide) hm) (qf_app qa_2 (Nat.le_trans (by decide) hm) (qf_app qa_3 (Nat.le_trans (by decide) hm) (qf_app qa_4 (Nat.le_trans (by decide) hm) (qf_app qa_5 (Nat.le_trans (by decide) hm) (qf_app qa_6 (Nat.le_trans (by decide) hm) (qf_app qa_7 (Nat.le_trans (by decide) hm) (qf_app qa_8 (Nat.le_trans (by decide) hm) (qf_app qa_9 (Nat.le_trans (by decide) hm) (qf_app qa_10 (Nat.le_trans (by decide) hm) (qf_app qa_11 (Nat.le_trans (by decide) hm) (qf_app qa_12 (Nat.le_trans (by decide) hm) (qf_app qa_13 (Nat.le_trans (by decide) hm) (qf_app qa_14 (Nat.le_trans (by decide) hm) (qf_app qa_15 (Nat.le_trans (by decide) hm) (qf_app qa_16 (Nat.le_trans (by decide) hm) (qf_app qa_17 (Nat.le_trans (by decide) hm) (qf_app qa_18 (Nat.le_trans (by decide) hm) (qf_app qa_19 (Nat.le_trans (by decide) hm) (qf_app qa_20 (Nat.le_trans (by decide) hm) (qf_app qa_21 (Nat.le_trans (by decide) hm) (qf_here h))))))))))))))))))))))
theorem qf_23 {pc : Nat} {q : qm_I} (hm : 1567 ≤ pc) (h : qm_fetch qx_c0_23 pc = some q) : qm_fetch qx_e0.2.2.2.2.2.2.2 pc = some q := qf_app qa_0 (Nat.le_trans (by decide) hm) (qf_app qa_1 (Nat.le_trans (by decide) hm) (qf_app qa_2 (Nat.le_trans (by decide) hm) (qf_app qa_3 (Nat.le_trans (by decide) hm) (qf_app qa_4 (Nat.le_trans (by decide) hm) (qf_app qa_5 (Nat.le_trans (by decide) hm) (qf_app qa_6 (Nat.le_trans (by decide) hm) (qf_app qa_7 (Nat.le_trans (by decide) hm) (qf_app qa_8 (Nat.le_trans (by decide) hm) (qf_app qa_9 (Nat.le_trans (by decide) hm) (qf_app qa_10 (Nat.le_trans (by decide) hm) (qf_app qa_11 (Nat.le_trans (by decide) hm) (qf_app qa_12 (Nat.le_trans (by decide) hm) (qf_app qa_13 (Nat.le_trans (by decide) hm) (qf_app qa_14 (Nat.le_trans (by decide) hm) (qf_app qa_15 (Nat.le_trans (by decide) hm) (qf_app qa_16 (Nat.le_trans (by decide) hm) (qf_app qa_17 (Nat.le_trans (by decide) hm) (qf_app qa_18 (Nat.le_trans (by decide) hm) (qf_app qa_19 (Nat.le_trans (by decide) hm) (qf_app qa_20 (Nat.le_trans (by decide) hm) (qf_app qa_21 (Nat.le_trans (by decide) hm) (qf_app qa_22 (Nat.le_trans (by decide) hm) (qf_here h)))))))))))))))))))))))
theorem qf_24 {pc : Nat} {q : qm_I} (hm : 1626 ≤ pc) (h : qm_fetch qx_c0_24 pc = some q) : qm_fetch qx_e0.2.2.2.2.2.2.2 pc = some q := qf_app qa_0 (Nat.le_trans (by decide) hm) (qf_app qa_1 (Nat.le_trans (by decide) hm) (qf_app qa_2 (Nat.le_trans (by decide) hm) (qf_app qa_3 (Nat.le_trans (by decide) hm) (qf_app qa_4 (Nat.le_trans (by decide) hm) (qf_app qa_5 (Nat.le_trans (by decide) hm) (qf_app qa_6 (Nat.le_trans (by decide) hm) (qf_app qa_7 (Nat.le_trans (by decide) hm) (qf_app qa_8 (Nat.le_trans (by decide) hm) (qf_app qa_9 (Nat.le_trans (by decide) hm) (qf_app qa_10 (Nat.le_trans (by decide) hm) (qf_app qa_11 (Nat.le_trans (by decide) hm) (qf_app qa_12 (Nat.le_trans (by decide) hm) (qf_app qa_13 (Nat.le_trans (by decide) hm) (qf_app qa_14 (Nat.le_trans (by decide) hm) (qf_app qa_15 (Nat.le_trans (by decide) hm) (qf_app qa_16 (Nat.le_trans (by decide) hm) (qf_app qa_17 (Nat.le_trans (by decide) hm) (qf_app qa_18 (Nat.le_trans (by decide) hm) (qf_app qa_19 (Nat.le_trans (by decide) hm) (qf_app qa_20 (Nat.le_trans (by decide) hm) (qf_app qa_21 (Nat.le_trans (by decide) hm) (qf_app qa_22 (Nat.le_trans (by decide) hm) (qf_app qa_23 (Nat.le_trans (by decide) hm) (qf_here h))))))))))))))))))))))))
theorem qf_25 {pc : Nat} {q : qm_I} (hm : 1694 ≤ pc) (h : qm_fetch qx_c0_25 pc = some q) : qm_fetch qx_e0.2.2.2.2.2.2.2 pc = some q := qf_app qa_0 (Nat.le_trans (by decide) hm) (qf_app qa_1 (Nat.le_trans (by decide) hm) (qf_app qa_2 (Nat.le_trans (by decide) hm) (qf_app qa_3 (Nat.le_trans (by decide) hm) (qf_app qa_4 (Nat.le_trans (by decide) hm) (qf_app qa_5 (Nat.le_trans (by decide) hm) (qf_app qa_6 (Nat.le_trans (by decide) hm) (qf_app qa_7 (Nat.le_trans (by decide) hm) (qf_app qa_8 (Nat.le_trans (by decide) hm) (qf_app qa_9 (Nat.le_trans (by decide) hm) (qf_app qa_10 (Nat.le_trans (by decide) hm) (qf_app qa_11 (Nat.le_trans (by decide) hm) (qf_app qa_12 (Nat.le_trans (by decide) hm) (qf_app qa_13 (Nat.le_trans (by decide) hm) (qf_app qa_14 (Nat.le_trans (by decide) hm) (qf_app qa_15 (Nat.le_trans (by decide) hm) (qf_app qa_16 (Nat.le_trans (by decide) hm) (qf_app qa_17 (Nat.le_trans (by decide) hm) (qf_app qa_18 (Nat.le_trans (by decide) hm) (qf_app qa_19 (Nat.le_trans (by decide) hm) (qf_app qa_20 (Nat.le_trans (by decide) hm) (qf_app qa_21 (Nat.le_trans (by decide) hm) (qf_app qa_22 (Nat.le_trans (by decide) hm) (qf_app qa_23 (Nat.le_trans (by decide) hm) (qf_app qa_24 (Nat.le_trans (by decide) hm) (qf_here h)))))))))))))))))))))))))
theorem qf_26 {pc : Nat} {q : qm_I} (hm : 1756 ≤ pc) (h : qm_fetch qx_c0_26 pc = some q) : qm_fetch qx_e0.2.2.2.2.2.2.2 pc = some q := qf_app qa_0 (Nat.le_trans (by decide) hm) (qf_app qa_1 (Nat.le_trans (by decide) hm) (qf_app qa_2 (Nat.le_trans (by decide) hm) (qf_app qa_3 (Nat.le_trans (by decide) hm) (qf_app qa_4 (Nat.le_trans (by decide) hm) (qf_app qa_5 (Nat.le_trans (by decide) hm) (qf_app qa_6 (Nat.le_trans (by decide) hm) (qf_app qa_7 (Nat.le_trans (by decide) hm) (qf_app qa_8 (Nat.le_trans (by decide) hm) (qf_app qa_9 (Nat.le_trans (by decide) hm) (qf_app qa_10 (Nat.le_trans (by decide) hm) (qf_app qa_11 (Nat.le_trans (by decide) hm) (qf_app qa_12 (Nat.le_trans (by decide) hm) (qf_app qa_13 (Nat.le_trans (by decide) hm) (qf_app qa_14 (Nat.le_trans (by decide) hm) (qf_app qa_15 (Nat.le_trans (by decide) hm) (qf_app qa_16 (Nat.le_trans (by decide) hm) (qf_app qa_17 (Nat.le_trans (by decide) hm) (qf_app qa_18 (Nat.le_trans (by decide) hm) (qf_app qa_19 (Nat.le_trans (by decide) hm) (qf_app qa_20 (Nat.le_trans (by decide) hm) (qf_app qa_21 (Nat.le_trans (by decide) hm) (qf_app qa_22 (Nat.le_trans (by decide) hm) (qf_app qa_23 (Nat.le_trans (by decide) hm) (qf_app qa_24 (Nat.le_trans (by decide) hm) (qf_app qa_25 (Nat.le_trans (by decide) hm) (qf_here h))))))))))))))))))))))))))
theorem qf_27 {pc : Nat} {q : qm_I} (hm : 1816 ≤ pc) (h : qm_fetch qx_c0_27 pc = some q) : qm_fetch qx_e0.2.2.2.2.2.2.2 pc = some q := qf_app qa_0 (Nat.le_trans (by decide) hm) (qf_app qa_1 (Nat.le_trans (by decide) hm) (qf_app qa_2 (Nat.le_trans (by decide) hm) (qf_app qa_3 (Nat.le_trans (by decide) hm) (qf_app qa_4 (Nat.le_trans (by decide) hm) (qf_app qa_5 (Nat.le_trans (by decide) hm) (qf_app qa_6 (Nat.le_trans (by decide) hm) (qf_app qa_7 (Nat.le_trans (by decide) hm) (qf_app qa_8 (Nat.le_trans (by decide) hm) (qf_app qa_9 (Nat.le_trans (by decide) hm) (qf_app qa_10 (Nat.le_trans (by decide) hm) (qf_app qa_11 (Nat.le_trans (by decide) hm) (qf_app qa_12 (Nat.le_trans (by decide) hm) (qf_app qa_13 (Nat.le_trans (by decide) hm) (qf_app qa_14 (Nat.le_trans (by decide) hm) (qf_app qa_15 (Nat.le_trans (by decide) hm) (qf_app qa_16 (Nat.le_trans (by decide) hm) (qf_app qa_17 (Nat.le_trans (by decide) hm) (qf_app qa_18 (Nat.le_trans (by decide) hm) (qf_app qa_19 (Nat.le_trans (by decide) hm) (qf_app qa_20 (Nat.le_trans (by decide) hm) (qf_app qa_21 (Nat.le_trans (by decide) hm) (qf_app qa_22 (Nat.le_trans (by decide) hm) (qf_app qa_23 (Nat.le_trans (by decide) hm) (qf_app qa_24 (Nat.le_trans (by decide) hm) (qf_app qa_25 (Nat.le_trans (by decide) hm) (qf_app qa_26 (Nat.le_trans (by decide) hm) (qf_here h)))))))))))))))))))))))))))
theorem qf_28 {pc : Nat} {q : qm_I} (hm : 1872 ≤ pc) (h : qm_fetch qx_c0_28 pc = some q) : qm_fetch qx_e0.2.2.2.2.2.2.2 pc = some q := qf_app qa_0 (Nat.le_trans (by decide) hm) (qf_app qa_1 (Nat.le_trans (by decide) hm) (qf_app qa_2 (Nat.le_trans (by decide) hm) (qf_app qa_3 (Nat.le_trans (by decide) hm) (qf_app qa_4 (Nat.le_trans (by decide) hm) (qf_app qa_5 (Nat.le_trans (by decide) hm) (qf_app qa_6 (Nat.le_trans (by decide) hm) (qf_app qa_7 (Nat.le_trans (by decide) hm) (qf_app qa_8 (Nat.le_trans (by decide) hm) (qf_app qa_9 (Nat.le_trans (by decide) hm) (qf_app qa_10 (Nat.le_trans (by decide) hm) (qf_app qa_11 (Nat.le_trans (by decide) hm) (qf_app qa_12 (Nat.le_trans (by decide) hm) (qf_app qa_13 (Nat.le_trans (by decide) hm) (qf_app qa_14 (Nat.le_trans (by decide) hm) (qf_app qa_15 (Nat.le_trans (by decide) hm) (qf_app qa_16 (Nat.le_trans (by decide) hm) (qf_app qa_17 (Nat.le_trans (by decide) hm) (qf_app qa_18 (Nat.le_trans (by decide) hm) (qf_app qa_19 (Nat.le_trans (by decide) hm) (qf_app qa_20 (Nat.le_trans (by decide) hm) (qf_app qa_21 (Nat.le_trans (by decide) hm) (qf_app qa_22 (Nat.le_trans (by decide) hm) (qf_app qa_23 (Nat.le_trans (by decide) hm) (qf_app qa_24 (Nat.le_trans (by decide) hm) (qf_app qa_25 (Nat.le_trans (by decide) hm) (qf_app qa_26 (Nat.le_trans (by decide) hm) (qf_app qa_27 (Nat.le_trans (by decide) hm) (qf_here h))))))))))))))))))))))))))))
theorem qf_29 {pc : Nat} {q : qm_I} (hm : 1934 ≤ pc) (h : qm_fetch qx_c0_29 pc = some q) : qm_fetch qx_e0.2.2.2.2.2.2.2 pc = some q := qf_app qa_0 (Nat.le_trans (by decide) hm) (qf_app qa_1 (Nat.le_trans (by decide) hm) (qf_app qa_2 (Nat.le_trans (by decide) hm) (qf_app qa_3 (Nat.le_trans (by decide) hm) (qf_app qa_4 (Nat.le_trans (by decide) hm) (qf_app qa_5 (Nat.le_trans (by decide) hm) (qf_app qa_6 (Nat.le_trans (by decide) hm) (qf_app qa_7 (Nat.le_trans (by decide) hm) (qf_app qa_8 (Nat.le_trans (by decide) hm) (qf_app qa_9 (Nat.le_trans (by decide) hm) (qf_app qa_10 (Nat.le_trans (by decide) hm) (qf_app qa_11 (Nat.le_trans (by decide) hm) (qf_app qa_12 (Nat.le_trans (by decide) hm) (qf_app qa_13 (Nat.le_trans (by decide) hm) (qf_app qa_14 (Nat.le_trans (by decide) hm) (qf_app qa_15 (Nat.le_trans (by decide) hm) (qf_app qa_16 (Nat.le_trans (by decide) hm) (qf_app qa_17 (Nat.le_trans (by decide) hm) (qf_app qa_18 (Nat.le_trans (by decide) hm) (qf_app qa_19 (Nat.le_trans (by decide) hm) (qf_app qa_20 (Nat.le_trans (by decide) hm) (qf_app qa_21 (Nat.le_trans (by decide) hm) (qf_app qa_22 (Nat.le_trans (by decide) hm) (qf_app qa_23 (Nat.le_trans (by decide) hm) (qf_app qa_24 (Nat.le_trans (by decide) hm) (qf_app qa_25 (Nat.le_trans (by decide) hm) (qf_app qa_26 (Nat.le_trans (by decide) hm) (qf_app qa_27 (Nat.le_trans (by decide) hm) (qf_app qa_28 (Nat.le_trans (by decide) hm) (qf_here h)))))))))))))))))))))))))))))
theorem qf_30 {pc : Nat} {q : qm_I} (hm : 1990 ≤ pc) (h : qm_fetch qx_c0_30 pc = some q) : qm_fetch qx_e0.2.2.2.2.2.2.2 pc = some q := qf_app qa_0 (Nat.le_trans (by decide) hm) (qf_app qa_1 (Nat.le_trans (by decide) hm) (qf_app qa_2 (Nat.le_trans (by decide) hm) (qf_app qa_3 (Nat.le_trans (by decide) hm) (qf_app qa_4 (Nat.le_trans (by decide) hm) (qf_app qa_5 (Nat.le_trans (by decide) hm) (qf_app qa_6 (Nat.le_trans (by decide) hm) (qf_app qa_7 (Nat.le_trans (by decide) hm) (qf_app qa_8 (Nat.le_trans (by decide) hm) (qf_app qa_9 (Nat.le_trans (by decide) hm) (qf_app qa_10 (Nat.le_trans (by decide) hm) (qf_app qa_11 (Nat.le_trans (by decide) hm) (qf_app qa_12 (Nat.le_trans (by decide) hm) (qf_app qa_13 (Nat.le_trans (by decide) hm) (qf_app qa_14 (Nat.le_trans (by decide) hm) (qf_app qa_15 (Nat.le_trans (by decide) hm) (qf_app qa_16 (Nat.le_trans (by decide) hm) (qf_app qa_17 (Nat.le_trans (by decide) hm) (qf_app qa_18 (Nat.le_trans (by decide) hm) (qf_app qa_19 (Nat.le_trans (by decide) hm) (qf_app qa_20 (Nat.le_trans (by decide) hm) (qf_app qa_21 (Nat.le_trans (by decide) hm) (qf_app qa_22 (Nat.le_trans (by decide) hm) (qf_app qa_23 (Nat.le_trans (by decide) hm) (qf_app qa_24 (Nat.le_trans (by decide) hm) (qf_app qa_25 (Nat.le_trans (by decide) hm) (qf_app qa_26 (Nat.le_trans (by decide) hm) (qf_app qa_27 (Nat.le_trans (by decide) hm) (qf_app qa_28 (Nat.le_trans (by decide) hm) (qf_app qa_29 (Nat.le_trans (by decide) hm) h)))))))))))))))))))))))))))))
abbrev lw_Q0 : Option Value → qm_W → Prop := fun r _ => r = some (.int (qz 1))
/-- what holds ahead of each call -/
def lw_J (i : Int) (σ α : Nat → Nat → Int) (κ : Nat → Option Nat) (ρ : Nat) : Prop := qI σ α κ ρ ∧ σ 86 11 ≤ 60 ∧ σ 16 15 = σ 86 32 ∧ (0 ≤ σ 58 12 ∧ σ 58 12 ≤ 1152 * i) ∧ qPZ σ α ∧ qRR σ α κ ρ
theorem lw_J6 {i : Int} {σ α : Nat → Nat → Int} {κ : Nat → Option Nat} {ρ : Nat} (h : lw_J i σ α κ ρ) : lw_J (i + 6) σ α κ ρ := ⟨h.1, h.2.1, h.2.2.1, ⟨h.2.2.2.1.1, Int.le_trans h.2.2.2.1.2 (by omega)⟩, h.2.2.2.2⟩
set_option maxHeartbeats 4000000 in
set_option maxRecDepth 20000 in
theorem lw_end {L : Nat} {xs : Nat → Int} {vb : Bool} {i : Int} (hL : L ≤ 3072) (hi : 0 ≤ i ∧ i + 6 ≤ (L : Int)) (rx : ∀ k, -2147483648 ≤ xs k ∧ xs k ≤ 2147483647) {w : qm_W} (hk : qr_W (qe L xs vb) 100 qx_e0 lw_Q0 (18, [(3, .int (qz (i + 6))), (2, .ref 86), (1, .ref 16), (0, .ref 0)], [], w, 109, 19340)) : qr_W (qe L xs vb) 100 qx_e0 lw_Q0 (2036, [(3, .int (qz i)), (2, .ref 86), (1, .ref 16), (0, .ref 0)], [], w, 109, 19340) := by
  refine qr_iinc [(3, .int (qz (i + 6))), (2, .ref 86), (1, .ref 16), (0, .ref 0)] 2039 (qf_30 (by decide) rfl) rfl (by decide) rfl rfl ?_
  refine qr_goto 18 (qf_30 (by decide) rfl) rfl ?_
  exact hk
set_option maxHeartbeats 4000000 in
set_option maxRecDepth 20000 in
theorem lw_c0 {L : Nat} {xs : Nat → Int} {vb : Bool} {i : Int} {σ α : Nat → Nat → Int} {κ : Nat → Option Nat} {ρ : Nat} (hL : L ≤ 3072) (hi : 0 ≤ i ∧ i + 6 ≤ (L : Int)) (rx : ∀ k, -2147483648 ≤ xs k ∧ xs k ≤ 2147483647) (hJ : lw_J i σ α κ ρ) (hk : ∀ σ' α' κ' ρ', lw_J (i + 6) σ' α' κ' ρ' → qr_W (qe L xs vb) 100 qx_e0 lw_Q0 (18, [(3, .int (qz (i + 6))), (2, .ref 86), (1, .ref 16), (0, .ref 0)], [], qw σ' α' κ' ρ', 109, 19340)) : qr_W (qe L xs vb) 100 qx_e0 lw_Q0 (212, [(3, .int (qz i)), (2, .ref 86), (1, .ref 16), (0, .ref 0)], [], qw σ α κ ρ, 109, 19340) := by
  obtain ⟨hI, hj0, hj1, hj2, hZ, hR, hK, hT, hF, hP, hH, hD, hN, hB, hC, hS, hW⟩ := hJ
  refine qr_aload_n 213 (qf_0 (by decide) rfl) rfl rfl ?_
  refine qr_aload_n 214 (qf_0 (by decide) rfl) rfl rfl ?_
  refine qr_iload_n 215 (qf_0 (by decide) rfl) rfl rfl ?_
  refine qr_iconst 216 (qf_0 (by decide) rfl) rfl ?_
  refine qr_iadd 217 (qf_0 (by decide) rfl) rfl ?_
  refine qr_iaload 218 (qf_0 (by decide) rfl) rfl (by omega) (by omega) rfl ?_
  refine qy_v (xs ((i + 1) : Int).toNat) rfl ?_
  refine qr_aload_n 219 (qf_0 (by decide) rfl) rfl rfl ?_
  refine qr_iload_n 220 (qf_0 (by decide) rfl) rfl rfl ?_
  refine qr_iconst 221 (qf_0 (by decide) rfl) rfl ?_
  refine qr_iadd 222 (qf_0 (by decide) rfl) rfl ?_
  refine qr_iaload 223 (qf_0 (by decide) rfl) rfl (by omega) (by omega) rfl ?_
  refine qy_v (xs ((i + 2) : Int).toNat) rfl ?_
  refine qr_aload_n 224 (qf_0 (by decide) rfl) rfl rfl ?_
  refine qr_iload_n 225 (qf_0 (by decide) rfl) rfl rfl ?_
  refine qr_iconst 226 (qf_0 (by decide) rfl) rfl ?_
  refine qr_iadd 227 (qf_0 (by decide) rfl) rfl ?_
  refine qr_iaload 228 (qf_0 (by decide) rfl) rfl (by omega) (by omega) rfl ?_
  refine qy_v (xs ((i + 3) : Int).toNat) rfl ?_
  refine qr_call 231 109 19340 (qf_0 (by decide) rfl) rfl (Nat.le_of_ble_eq_true rfl) (Nat.le_of_ble_eq_true rfl) rfl rfl (sf_38_16z (d := 97) hI (rx _) (rx _) (rx _)) ?_
  rintro _ _ ⟨σ1, α1, rfl, hI1, hG1, v1, rfl, hv1, hx1_0⟩
  have k1_16_15 : σ1 16 15 = σ 16 15 := hG1.1 16 15 (by decide)
  have k1_58_12 : σ1 58 12 = σ 58 12 := hG1.1 58 12 (by decide)
  have k1_86_4 : σ1 86 4 = σ 86 4 := hG1.1 86 4 (by decide)
  have k1_86_5 : σ1 86 5 = σ 86 5 := hG1.1 86 5 (by decide)
  have k1_86_11 : σ1 86 11 = σ 86 11 := hG1.1 86 11 (by decide)
  have k1_86_32 : σ1 86 32 = σ 86 32 := hG1.1 86 32 (by decide)
  have hK_1 := qR2_fr hG1 (by decide) (by decide) hK
  have hT_1 := qTp_fr hG1 (by decide) hT
  have hF_1 := qRF_fr hG1 (by decide) (by decide) hF
  have hP_1 := qRP_fr hG1 (by decide) (by decide) hP
  have hN_1 := qRN_fr hG1 (by decide) hN
  have hB_1 := qRT_fr hG1 (by decide) (by decide) hB
  have hC_1 := qRC_fr hG1 (by decide) (by decide) (by decide) (by decide) hC
  have hS_1 := qSt_fr hG1 (by decide) (by decide) hS
  have hW_1 := qRS_fr hG1 (by decide) (by decide) hW
  have hZ_1 := qPZ_fr hG1 (by decide) (by decide) hZ
  show qr_W (qe L xs vb) 100 qx_e0 lw_Q0 (231, [(3, .int (qz i)), (2, .ref 86), (1, .ref 16), (0, .ref 0)], [.int (qz v1)], qw σ1 α1 κ ρ, 109, 19340)
  refine qr_pop 232 (qf_0 (by decide) rfl) rfl rfl ?_
  refine qr_aload_n 233 (qf_0 (by decide) rfl) rfl rfl ?_
  refine qr_aload_n 234 (qf_0 (by decide) rfl) rfl rfl ?_
  refine qr_iload_n 235 (qf_0 (by decide) rfl) rfl rfl ?_
  refine qr_iconst 236 (qf_0 (by decide) rfl) rfl ?_
  refine qr_iadd 237 (qf_0 (by decide) rfl) rfl ?_
  refine qr_iaload 238 (qf_0 (by decide) rfl) rfl (by omega) (by omega) rfl ?_
  refine qy_v (xs ((i + 1) : Int).toNat) rfl ?_
  refine qr_aload_n 239 (qf_0 (by decide) rfl) rfl rfl ?_
  refine qr_iload_n 240 (qf_0 (by decide) rfl) rfl rfl ?_
  refine qr_iconst 241 (qf_0 (by decide) rfl) rfl ?_
  refine qr_iadd 242 (qf_0 (by decide) rfl) rfl ?_
  refine qr_iaload 243 (qf_1 (by decide) rfl) rfl (by omega) (by omega) rfl ?_
  refine qy_v (xs ((i + 2) : Int).toNat) rfl ?_
  refine qr_aload_n 244 (qf_1 (by decide) rfl) rfl rfl ?_
  refine qr_iload_n 245 (qf_1 (by decide) rfl) rfl rfl ?_
  refine qr_iconst 246 (qf_1 (by decide) rfl) rfl ?_
  refine qr_iadd 247 (qf_1 (by decide) rfl) rfl ?_
  refine qr_iaload 248 (qf_1 (by decide) rfl) rfl (by omega) (by omega) rfl ?_
  refine qy_v (xs ((i + 3) : Int).toNat) rfl ?_
  refine qr_call 251 109 19340 (qf_1 (by decide) rfl) rfl (Nat.le_of_ble_eq_true rfl) (Nat.le_of_ble_eq_true rfl) rfl rfl (sf_174_86z (d := 97) hI1 (rx _) (rx _) (rx _)) ?_
  rintro _ _ ⟨σ2, α2, rfl, hI2, hG2, v2, rfl, hv2, hx2_0⟩
  have k2_16_15 : σ2 16 15 = σ1 16 15 := hG2.1 16 15 (by decide)
  have k2_58_12 : σ2 58 12 = σ1 58 12 := hG2.1 58 12 (by decide)
  have k2_86_4 : σ2 86 4 = σ1 86 4 := hG2.1 86 4 (by decide)
  have k2_86_5 : σ2 86 5 = σ1 86 5 := hG2.1 86 5 (by decide)
  have k2_86_11 : σ2 86 11 = σ1 86 11 := hG2.1 86 11 (by decide)
  have k2_86_32 : σ2 86 32 = σ1 86 32 := hG2.1 86 32 (by decide)
  have hT_2 := qTp_fr hG2 (by decide) hT_1
  have hP_2 := qRP_fr hG2 (by decide) (by decide) hP_1
  have hN_2 := qRN_fr hG2 (by decide) hN_1
  have hB_2 := qRT_fr hG2 (by decide) (by decide) hB_1
  have hC_2 := qRC_fr hG2 (by decide) (by decide) (by decide) (by decide) hC_1
  have hS_2 := qSt_fr hG2 (by decide) (by decide) hS_1
  have hZ_2 := qPZ_fr hG2 (by decide) (by decide) hZ_1
  obtain ⟨hv, h6, hRb, hFb, hHb, hDb⟩ := ro_person hI hR hF hH hD hG1 hG2 hx1_0 hx2_0
  have hWb := rs_person hI1 (by have hq : 0 ≤ σ 86 5 ∧ σ 86 5 ≤ σ 86 4 ∧ σ 86 4 ≤ 40 := hH.1.2.2.1; omega) hG2 hx2_0 hW_1
  have hKb := qR2_up hG2 (by decide) (by decide) h6 hK_1
  show qr_W (qe L xs vb) 100 qx_e0 lw_Q0 (251, [(3, .int (qz i)), (2, .ref 86), (1, .ref 16), (0, .ref 0)], [.int (qz v2)], qw σ2 α2 κ ρ, 109, 19340)
  refine qr_pop 252 (qf_1 (by decide) rfl) rfl rfl ?_
  refine qr_goto 2036 (qf_1 (by decide) rfl) rfl ?_
  exact lw_end hL hi rx (hk _ _ _ _ ⟨hI2, by omega, by omega, by omega, hZ_2, hRb, hKb, hT_2, hFb, hP_2, hHb, hDb, hN_2, hB_2, hC_2, hS_2, hWb⟩)
set_option maxHeartbeats 4000000 in
set_option maxRecDepth 20000 in
theorem lw_c1 {L : Nat} {xs : Nat → Int} {vb : Bool} {i : Int} {σ α : Nat → Nat → Int} {κ : Nat → Option Nat} {ρ : Nat} (hL : L ≤ 3072) (hi : 0 ≤ i ∧ i + 6 ≤ (L : Int)) (rx : ∀ k, -2147483648 ≤ xs k ∧ xs k ≤ 2147483647) (hJ : lw_J i σ α κ ρ) (hk : ∀ σ' α' κ' ρ', lw_J (i + 6) σ' α' κ' ρ' → qr_W (qe L xs vb) 100 qx_e0 lw_Q0 (18, [(3, .int (qz (i + 6))), (2, .ref 86), (1, .ref 16), (0, .ref 0)], [], qw σ' α' κ' ρ', 109, 19340)) : qr_W (qe L xs vb) 100 qx_e0 lw_Q0 (255, [(3, .int (qz i)), (2, .ref 86), (1, .ref 16), (0, .ref 0)], [], qw σ α κ ρ, 109, 19340) := by
  obtain ⟨hI, hj0, hj1, hj2, hZ, hR, hK, hT, hF, hP, hH, hD, hN, hB, hC, hS, hW⟩ := hJ
  refine qr_aload_n 256 (qf_1 (by decide) rfl) rfl rfl ?_
  refine qr_aload_n 257 (qf_1 (by decide) rfl) rfl rfl ?_
  refine qr_iload_n 258 (qf_1 (by decide) rfl) rfl rfl ?_
  refine qr_iconst 259 (qf_1 (by decide) rfl) rfl ?_
  refine qr_iadd 260 (qf_1 (by decide) rfl) rfl ?_
  refine qr_iaload 261 (qf_1 (by decide) rfl) rfl (by omega) (by omega) rfl ?_
  refine qy_v (xs ((i + 1) : Int).toNat) rfl ?_
  refine qr_aload_n 262 (qf_1 (by decide) rfl) rfl rfl ?_
  refine qr_iload_n 263 (qf_1 (by decide) rfl) rfl rfl ?_
  refine qr_iconst 264 (qf_1 (by decide) rfl) rfl ?_
  refine qr_iadd 265 (qf_1 (by decide) rfl) rfl ?_
  refine qr_iaload 266 (qf_1 (by decide) rfl) rfl (by omega) (by omega) rfl ?_
  refine qy_v (xs ((i + 2) : Int).toNat) rfl ?_
  refine qr_aload_n 267 (qf_1 (by decide) rfl) rfl rfl ?_
  refine qr_iload_n 268 (qf_1 (by decide) rfl) rfl rfl ?_
  refine qr_iconst 269 (qf_1 (by decide) rfl) rfl ?_
  refine qr_iadd 270 (qf_1 (by decide) rfl) rfl ?_
  refine qr_iaload 271 (qf_1 (by decide) rfl) rfl (by omega) (by omega) rfl ?_
  refine qy_v (xs ((i + 3) : Int).toNat) rfl ?_
  refine qr_call 274 109 19340 (qf_1 (by decide) rfl) rfl (Nat.le_of_ble_eq_true rfl) (Nat.le_of_ble_eq_true rfl) rfl rfl (sf_43_16z (d := 97) hI (rx _) (rx _) (rx _)) ?_
  rintro _ _ ⟨σ1, α1, rfl, hI1, hG1, v1, rfl, hv1, hx1_0⟩
  have k1_16_15 : σ1 16 15 = σ 16 15 := hG1.1 16 15 (by decide)
  have k1_58_12 : σ1 58 12 = σ 58 12 := hG1.1 58 12 (by decide)
  have k1_86_4 : σ1 86 4 = σ 86 4 := hG1.1 86 4 (by decide)
  have k1_86_5 : σ1 86 5 = σ 86 5 := hG1.1 86 5 (by decide)
  have k1_86_11 : σ1 86 11 = σ 86 11 := hG1.1 86 11 (by decide)
  have k1_86_32 : σ1 86 32 = σ 86 32 := hG1.1 86 32 (by decide)
  have hK_1 := qR2_fr hG1 (by decide) (by decide) hK
  have hT_1 := qTp_fr hG1 (by decide) hT
  have hF_1 := qRF_fr hG1 (by decide) (by decide) hF
  have hP_1 := qRP_fr hG1 (by decide) (by decide) hP
  have hN_1 := qRN_fr hG1 (by decide) hN
  have hB_1 := qRT_fr hG1 (by decide) (by decide) hB
  have hC_1 := qRC_fr hG1 (by decide) (by decide) (by decide) (by decide) hC
  have hS_1 := qSt_fr hG1 (by decide) (by decide) hS
  have hW_1 := qRS_fr hG1 (by decide) (by decide) hW
  have hZ_1 := qPZ_fr hG1 (by decide) (by decide) hZ
  show qr_W (qe L xs vb) 100 qx_e0 lw_Q0 (274, [(3, .int (qz i)), (2, .ref 86), (1, .ref 16), (0, .ref 0)], [.int (qz v1)], qw σ1 α1 κ ρ, 109, 19340)
  refine qr_pop 275 (qf_1 (by decide) rfl) rfl rfl ?_
  refine qr_aload_n 276 (qf_1 (by decide) rfl) rfl rfl ?_
  refine qr_aload_n 277 (qf_1 (by decide) rfl) rfl rfl ?_
  refine qr_iload_n 278 (qf_1 (by decide) rfl) rfl rfl ?_
  refine qr_iconst 279 (qf_1 (by decide) rfl) rfl ?_
  refine qr_iadd 280 (qf_1 (by decide) rfl) rfl ?_
  refine qr_iaload 281 (qf_1 (by decide) rfl) rfl (by omega) (by omega) rfl ?_
  refine qy_v (xs ((i + 1) : Int).toNat) rfl ?_
  refine qr_aload_n 282 (qf_1 (by decide) rfl) rfl rfl ?_
  refine qr_iload_n 283 (qf_1 (by decide) rfl) rfl rfl ?_
  refine qr_iconst 284 (qf_1 (by decide) rfl) rfl ?_
  refine qr_iadd 285 (qf_1 (by decide) rfl) rfl ?_
  refine qr_iaload 286 (qf_1 (by decide) rfl) rfl (by omega) (by omega) rfl ?_
  refine qy_v (xs ((i + 2) : Int).toNat) rfl ?_
  refine qr_aload_n 287 (qf_1 (by decide) rfl) rfl rfl ?_
  refine qr_iload_n 288 (qf_1 (by decide) rfl) rfl rfl ?_
  refine qr_iconst 289 (qf_1 (by decide) rfl) rfl ?_
  refine qr_iadd 290 (qf_1 (by decide) rfl) rfl ?_
  refine qr_iaload 291 (qf_1 (by decide) rfl) rfl (by omega) (by omega) rfl ?_
  refine qy_v (xs ((i + 3) : Int).toNat) rfl ?_
  refine qr_call 294 109 19340 (qf_1 (by decide) rfl) rfl (Nat.le_of_ble_eq_true rfl) (Nat.le_of_ble_eq_true rfl) rfl rfl (sf_177_86z (d := 96) hI1 (rx _) (rx _) (rx _)) ?_
  rintro _ _ ⟨σ2, α2, rfl, hI2, hG2, v2, rfl, hv2, hx2_0⟩
  have k2_16_15 : σ2 16 15 = σ1 16 15 := hG2.1 16 15 (by decide)
  have k2_58_12 : σ2 58 12 = σ1 58 12 := hG2.1 58 12 (by decide)
  have k2_86_4 : σ2 86 4 = σ1 86 4 := hG2.1 86 4 (by decide)
  have k2_86_5 : σ2 86 5 = σ1 86 5 := hG2.1 86 5 (by decide)
  have k2_86_11 : σ2 86 11 = σ1 86 11 := hG2.1 86 11 (by decide)
  have k2_86_32 : σ2 86 32 = σ1 86 32 := hG2.1 86 32 (by decide)
  have hT_2 := qTp_fr hG2 (by decide) hT_1
  have hP_2 := qRP_fr hG2 (by decide) (by decide) hP_1
  have hN_2 := qRN_fr hG2 (by decide) hN_1
  have hB_2 := qRT_fr hG2 (by decide) (by decide) hB_1
  have hC_2 := qRC_fr hG2 (by decide) (by decide) (by decide) (by decide) hC_1
  have hS_2 := qSt_fr hG2 (by decide) (by decide) hS_1
  have hZ_2 := qPZ_fr hG2 (by decide) (by decide) hZ_1
  obtain ⟨hv, h6, hRb, hFb, hHb, hDb⟩ := ro_people hI hR hF hH hD hG1 hG2 hx1_0 hx2_0
  have hWb := rs_people hI1 (by have hq : 0 ≤ σ 86 5 ∧ σ 86 5 ≤ σ 86 4 ∧ σ 86 4 ≤ 40 := hH.1.2.2.1; omega) hG2 hx2_0 hW_1
  have hKb := qR2_up hG2 (by decide) (by decide) h6 hK_1
  show qr_W (qe L xs vb) 100 qx_e0 lw_Q0 (294, [(3, .int (qz i)), (2, .ref 86), (1, .ref 16), (0, .ref 0)], [.int (qz v2)], qw σ2 α2 κ ρ, 109, 19340)
  refine qr_pop 295 (qf_1 (by decide) rfl) rfl rfl ?_
  refine qr_goto 2036 (qf_1 (by decide) rfl) rfl ?_
  exact lw_end hL hi rx (hk _ _ _ _ ⟨hI2, by omega, by omega, by omega, hZ_2, hRb, hKb, hT_2, hFb, hP_2, hHb, hDb, hN_2, hB_2, hC_2, hS_2, hWb⟩)
set_option maxHeartbeats 4000000 in
set_option maxRecDepth 20000 in
theorem lw_c2 {L : Nat} {xs : Nat → Int} {vb : Bool} {i : Int} {σ α : Nat → Nat → Int} {κ : Nat → Option Nat} {ρ : Nat} (hL : L ≤ 3072) (hi : 0 ≤ i ∧ i + 6 ≤ (L : Int)) (rx : ∀ k, -2147483648 ≤ xs k ∧ xs k ≤ 2147483647) (hJ : lw_J i σ α κ ρ) (hk : ∀ σ' α' κ' ρ', lw_J (i + 6) σ' α' κ' ρ' → qr_W (qe L xs vb) 100 qx_e0 lw_Q0 (18, [(3, .int (qz (i + 6))), (2, .ref 86), (1, .ref 16), (0, .ref 0)], [], qw σ' α' κ' ρ', 109, 19340)) : qr_W (qe L xs vb) 100 qx_e0 lw_Q0 (298, [(3, .int (qz i)), (2, .ref 86), (1, .ref 16), (0, .ref 0)], [], qw σ α κ ρ, 109, 19340) := by
  obtain ⟨hI, hj0, hj1, hj2, hZ, hR, hK, hT, hF, hP, hH, hD, hN, hB, hC, hS, hW⟩ := hJ
  refine qr_aload_n 299 (qf_1 (by decide) rfl) rfl rfl ?_
  refine qr_aload_n 300 (qf_1 (by decide) rfl) rfl rfl ?_
  refine qr_iload_n 301 (qf_1 (by decide) rfl) rfl rfl ?_
  refine qr_iconst 302 (qf_1 (by decide) rfl) rfl ?_
  refine qr_iadd 303 (qf_2 (by decide) rfl) rfl ?_
  refine qr_iaload 304 (qf_2 (by decide) rfl) rfl (by omega) (by omega) rfl ?_
  refine qy_v (xs ((i + 1) : Int).toNat) rfl ?_
  refine qr_aload_n 305 (qf_2 (by decide) rfl) rfl rfl ?_
  refine qr_iload_n 306 (qf_2 (by decide) rfl) rfl rfl ?_
  refine qr_iconst 307 (qf_2 (by decide) rfl) rfl ?_
  refine qr_iadd 308 (qf_2 (by decide) rfl) rfl ?_
  refine qr_iaload 309 (qf_2 (by decide) rfl) rfl (by omega) (by omega) rfl ?_
  refine qy_v (xs ((i + 2) : Int).toNat) rfl ?_
  refine qr_call 312 109 19340 (qf_2 (by decide) rfl) rfl (Nat.le_of_ble_eq_true rfl) (Nat.le_of_ble_eq_true rfl) rfl rfl (sf_49_16 (d := 98) hI (rx _) (rx _)) ?_
  rintro _ _ ⟨rfl, v1, rfl, hv1⟩
  show qr_W (qe L xs vb) 100 qx_e0 lw_Q0 (312, [(3, .int (qz i)), (2, .ref 86), (1, .ref 16), (0, .ref 0)], [.int (qz v1)], qw σ α κ ρ, 109, 19340)
  refine qr_pop 313 (qf_2 (by decide) rfl) rfl rfl ?_
  refine qr_aload_n 314 (qf_2 (by decide) rfl) rfl rfl ?_
  refine qr_aload_n 315 (qf_2 (by decide) rfl) rfl rfl ?_
  refine qr_iload_n 316 (qf_2 (by decide) rfl) rfl rfl ?_
  refine qr_iconst 317 (qf_2 (by decide) rfl) rfl ?_
  refine qr_iadd 318 (qf_2 (by decide) rfl) rfl ?_
  refine qr_iaload 319 (qf_2 (by decide) rfl) rfl (by omega) (by omega) rfl ?_
  refine qy_v (xs ((i + 1) : Int).toNat) rfl ?_
  refine qr_aload_n 320 (qf_2 (by decide) rfl) rfl rfl ?_
  refine qr_iload_n 321 (qf_2 (by decide) rfl) rfl rfl ?_
  refine qr_iconst 322 (qf_2 (by decide) rfl) rfl ?_
  refine qr_iadd 323 (qf_2 (by decide) rfl) rfl ?_
  refine qr_iaload 324 (qf_2 (by decide) rfl) rfl (by omega) (by omega) rfl ?_
  refine qy_v (xs ((i + 2) : Int).toNat) rfl ?_
  refine qr_call 327 109 19340 (qf_2 (by decide) rfl) rfl (Nat.le_of_ble_eq_true rfl) (Nat.le_of_ble_eq_true rfl) rfl rfl (sf_179_86 (d := 97) hI (rx _) (rx _)) ?_
  rintro _ _ ⟨rfl, v2, rfl, hv2⟩
  show qr_W (qe L xs vb) 100 qx_e0 lw_Q0 (327, [(3, .int (qz i)), (2, .ref 86), (1, .ref 16), (0, .ref 0)], [.int (qz v2)], qw σ α κ ρ, 109, 19340)
  refine qr_pop 328 (qf_2 (by decide) rfl) rfl rfl ?_
  refine qr_goto 2036 (qf_2 (by decide) rfl) rfl ?_
  exact lw_end hL hi rx (hk _ _ _ _ ⟨hI, by omega, by omega, by omega, hZ, hR, hK, hT, hF, hP, hH, hD, hN, hB, hC, hS, hW⟩)
set_option maxHeartbeats 4000000 in
set_option maxRecDepth 20000 in
theorem lw_c3 {L : Nat} {xs : Nat → Int} {vb : Bool} {i : Int} {σ α : Nat → Nat → Int} {κ : Nat → Option Nat} {ρ : Nat} (hL : L ≤ 3072) (hi : 0 ≤ i ∧ i + 6 ≤ (L : Int)) (rx : ∀ k, -2147483648 ≤ xs k ∧ xs k ≤ 2147483647) (hJ : lw_J i σ α κ ρ) (hk : ∀ σ' α' κ' ρ', lw_J (i + 6) σ' α' κ' ρ' → qr_W (qe L xs vb) 100 qx_e0 lw_Q0 (18, [(3, .int (qz (i + 6))), (2, .ref 86), (1, .ref 16), (0, .ref 0)], [], qw σ' α' κ' ρ', 109, 19340)) : qr_W (qe L xs vb) 100 qx_e0 lw_Q0 (331, [(3, .int (qz i)), (2, .ref 86), (1, .ref 16), (0, .ref 0)], [], qw σ α κ ρ, 109, 19340) := by
  obtain ⟨hI, hj0, hj1, hj2, hZ, hR, hK, hT, hF, hP, hH, hD, hN, hB, hC, hS, hW⟩ := hJ
  refine qr_aload_n 332 (qf_2 (by decide) rfl) rfl rfl ?_
  refine qr_aload_n 333 (qf_2 (by decide) rfl) rfl rfl ?_
  refine qr_iload_n 334 (qf_2 (by decide) rfl) rfl rfl ?_
  refine qr_iconst 335 (qf_2 (by decide) rfl) rfl ?_
  refine qr_iadd 336 (qf_2 (by decide) rfl) rfl ?_
  refine qr_iaload 337 (qf_2 (by decide) rfl) rfl (by omega) (by omega) rfl ?_
  refine qy_v (xs ((i + 1) : Int).toNat) rfl ?_
  refine qr_aload_n 338 (qf_2 (by decide) rfl) rfl rfl ?_
  refine qr_iload_n 339 (qf_2 (by decide) rfl) rfl rfl ?_
  refine qr_iconst 340 (qf_2 (by decide) rfl) rfl ?_
  refine qr_iadd 341 (qf_2 (by decide) rfl) rfl ?_
  refine qr_iaload 342 (qf_2 (by decide) rfl) rfl (by omega) (by omega) rfl ?_
  refine qy_v (xs ((i + 2) : Int).toNat) rfl ?_
  refine qr_call 345 109 19340 (qf_2 (by decide) rfl) rfl (Nat.le_of_ble_eq_true rfl) (Nat.le_of_ble_eq_true rfl) rfl rfl (sf_51_16x (d := 96) hI (rx _) (rx _) hH.1) ?_
  rintro _ _ ⟨σ1, α1, rfl, hI1, hG1, v1, rfl, hv1, hx1_0⟩
  have k1_16_15 : σ1 16 15 = σ 16 15 := hG1.1 16 15 (by decide)
  have k1_58_12 : σ1 58 12 = σ 58 12 := hG1.1 58 12 (by decide)
  have k1_86_4 : σ1 86 4 = σ 86 4 := hG1.1 86 4 (by decide)
  have k1_86_5 : σ1 86 5 = σ 86 5 := hG1.1 86 5 (by decide)
  have k1_86_11 : σ1 86 11 = σ 86 11 := hG1.1 86 11 (by decide)
  have k1_86_32 : σ1 86 32 = σ 86 32 := hG1.1 86 32 (by decide)
  have hR_1 := qR_fr hG1 (by decide) (by decide) hR
  have hK_1 := qR2_fr hG1 (by decide) (by decide) hK
  have hT_1 := qTp_fr hG1 (by decide) hT
  have hF_1 := qRF_fr hG1 (by decide) (by decide) hF
  have hP_1 := qRP_fr hG1 (by decide) (by decide) hP
  have hD_1 := qRL_fr hG1 (by decide) (by decide) hD
  have hN_1 := qRN_fr hG1 (by decide) hN
  have hB_1 := qRT_fr hG1 (by decide) (by decide) hB
  have hC_1 := qRC_fr hG1 (by decide) (by decide) (by decide) (by decide) hC
  have hS_1 := qSt_fr hG1 (by decide) (by decide) hS
  have hW_1 := qRS_fr hG1 (by decide) (by decide) hW
  have hZ_1 := qPZ_fr hG1 (by decide) (by decide) hZ
  show qr_W (qe L xs vb) 100 qx_e0 lw_Q0 (345, [(3, .int (qz i)), (2, .ref 86), (1, .ref 16), (0, .ref 0)], [.int (qz v1)], qw σ1 α1 κ ρ, 109, 19340)
  refine qr_pop 346 (qf_2 (by decide) rfl) rfl rfl ?_
  refine qr_aload_n 347 (qf_2 (by decide) rfl) rfl rfl ?_
  refine qr_aload_n 348 (qf_2 (by decide) rfl) rfl rfl ?_
  refine qr_iload_n 349 (qf_2 (by decide) rfl) rfl rfl ?_
  refine qr_iconst 350 (qf_2 (by decide) rfl) rfl ?_
  refine qr_iadd 351 (qf_2 (by decide) rfl) rfl ?_
  refine qr_iaload 352 (qf_2 (by decide) rfl) rfl (by omega) (by omega) rfl ?_
  refine qy_v (xs ((i + 1) : Int).toNat) rfl ?_
  refine qr_aload_n 353 (qf_2 (by decide) rfl) rfl rfl ?_
  refine qr_iload_n 354 (qf_2 (by decide) rfl) rfl rfl ?_
  refine qr_iconst 355 (qf_2 (by decide) rfl) rfl ?_
  refine qr_iadd 356 (qf_2 (by decide) rfl) rfl ?_
  refine qr_iaload 357 (qf_2 (by decide) rfl) rfl (by omega) (by omega) rfl ?_
  refine qy_v (xs ((i + 2) : Int).toNat) rfl ?_
  refine qr_call 360 109 19340 (qf_2 (by decide) rfl) rfl (Nat.le_of_ble_eq_true rfl) (Nat.le_of_ble_eq_true rfl) rfl rfl (sf_182_86x (d := 97) hI1 (rx _) (rx _)) ?_
  rintro _ _ ⟨σ2, α2, rfl, hI2, hG2, v2, rfl, hv2, hx2_0⟩
  have k2_16_15 : σ2 16 15 = σ1 16 15 := hG2.1 16 15 (by decide)
  have k2_58_12 : σ2 58 12 = σ1 58 12 := hG2.1 58 12 (by decide)
  have k2_86_11 : σ2 86 11 = σ1 86 11 := hG2.1 86 11 (by decide)
  have k2_86_32 : σ2 86 32 = σ1 86 32 := hG2.1 86 32 (by decide)
  have hR_2 := qR_fr hG2 (by decide) (by decide) hR_1
  have hK_2 := qR2_fr hG2 (by decide) (by decide) hK_1
  have hT_2 := qTp_fr hG2 (by decide) hT_1
  have hF_2 := qRF_fr hG2 (by decide) (by decide) hF_1
  have hP_2 := qRP_fr hG2 (by decide) (by decide) hP_1
  have hD_2 := qRL_fr hG2 (by decide) (by decide) hD_1
  have hN_2 := qRN_fr hG2 (by decide) hN_1
  have hB_2 := qRT_fr hG2 (by decide) (by decide) hB_1
  have hC_2 := qRC_fr hG2 (by decide) (by decide) (by decide) (by decide) hC_1
  have hS_2 := qSt_fr hG2 (by decide) (by decide) hS_1
  have hZ_2 := qPZ_fr hG2 (by decide) (by decide) hZ_1
  obtain ⟨hv, hHb⟩ := ro_sword hI hR hH hG1 hG2 hx1_0 hx2_0
  have hWb := rs_sword hI1 (by have hq : 0 ≤ σ 86 5 ∧ σ 86 5 ≤ σ 86 4 ∧ σ 86 4 ≤ 40 := hH.1.2.2.1; omega) hG2 hx2_0 hW_1
  show qr_W (qe L xs vb) 100 qx_e0 lw_Q0 (360, [(3, .int (qz i)), (2, .ref 86), (1, .ref 16), (0, .ref 0)], [.int (qz v2)], qw σ2 α2 κ ρ, 109, 19340)
  refine qr_pop 361 (qf_2 (by decide) rfl) rfl rfl ?_
  refine qr_goto 2036 (qf_2 (by decide) rfl) rfl ?_
  exact lw_end hL hi rx (hk _ _ _ _ ⟨hI2, by omega, by omega, by omega, hZ_2, hR_2, hK_2, hT_2, hF_2, hP_2, hHb, hD_2, hN_2, hB_2, hC_2, hS_2, hWb⟩)
set_option maxHeartbeats 4000000 in
set_option maxRecDepth 20000 in
theorem lw_c4 {L : Nat} {xs : Nat → Int} {vb : Bool} {i : Int} {σ α : Nat → Nat → Int} {κ : Nat → Option Nat} {ρ : Nat} (hL : L ≤ 3072) (hi : 0 ≤ i ∧ i + 6 ≤ (L : Int)) (rx : ∀ k, -2147483648 ≤ xs k ∧ xs k ≤ 2147483647) (hJ : lw_J i σ α κ ρ) (hk : ∀ σ' α' κ' ρ', lw_J (i + 6) σ' α' κ' ρ' → qr_W (qe L xs vb) 100 qx_e0 lw_Q0 (18, [(3, .int (qz (i + 6))), (2, .ref 86), (1, .ref 16), (0, .ref 0)], [], qw σ' α' κ' ρ', 109, 19340)) : qr_W (qe L xs vb) 100 qx_e0 lw_Q0 (364, [(3, .int (qz i)), (2, .ref 86), (1, .ref 16), (0, .ref 0)], [], qw σ α κ ρ, 109, 19340) := by
  obtain ⟨hI, hj0, hj1, hj2, hZ, hR, hK, hT, hF, hP, hH, hD, hN, hB, hC, hS, hW⟩ := hJ
  refine qr_aload_n 365 (qf_3 (by decide) rfl) rfl rfl ?_
  refine qr_aload_n 366 (qf_3 (by decide) rfl) rfl rfl ?_
  refine qr_iload_n 367 (qf_3 (by decide) rfl) rfl rfl ?_
  refine qr_iconst 368 (qf_3 (by decide) rfl) rfl ?_
  refine qr_iadd 369 (qf_3 (by decide) rfl) rfl ?_
  refine qr_iaload 370 (qf_3 (by decide) rfl) rfl (by omega) (by omega) rfl ?_
  refine qy_v (xs ((i + 1) : Int).toNat) rfl ?_
  refine qr_aload_n 371 (qf_3 (by decide) rfl) rfl rfl ?_
  refine qr_iload_n 372 (qf_3 (by decide) rfl) rfl rfl ?_
  refine qr_iconst 373 (qf_3 (by decide) rfl) rfl ?_
  refine qr_iadd 374 (qf_3 (by decide) rfl) rfl ?_
  refine qr_iaload 375 (qf_3 (by decide) rfl) rfl (by omega) (by omega) rfl ?_
  refine qy_v (xs ((i + 2) : Int).toNat) rfl ?_
  have hk0 : 0 ≤ σ 86 11 := (hI.1 86 11).1
  have hk1 : σ 23 1 = σ 86 11 := hK.1
  refine qr_call 378 109 19340 (qf_3 (by decide) rfl) rfl (Nat.le_of_ble_eq_true rfl) (Nat.le_of_ble_eq_true rfl) rfl rfl (sf_56_16x (d := 97) (P := qPn (α 94) (α 95) (σ 86 11) (xs ((i + 1) : Int).toNat) (xs ((i + 2) : Int).toNat)) hI (rx _) (rx _) (qPn_0 hk0 hK.2.2) (qPn_cl hk0) (by omega)) ?_
  rintro _ _ ⟨σ1, α1, rfl, hI1, hG1, v1, rfl, hv1, hp1⟩
  have k1_16_15 : σ1 16 15 = σ 16 15 := hG1.1 16 15 (by decide)
  have k1_58_12 : σ1 58 12 = σ 58 12 := hG1.1 58 12 (by decide)
  have k1_86_4 : σ1 86 4 = σ 86 4 := hG1.1 86 4 (by decide)
  have k1_86_5 : σ1 86 5 = σ 86 5 := hG1.1 86 5 (by decide)
  have k1_86_11 : σ1 86 11 = σ 86 11 := hG1.1 86 11 (by decide)
  have k1_86_32 : σ1 86 32 = σ 86 32 := hG1.1 86 32 (by decide)
  have hR_1 := qR_fr hG1 (by decide) (by decide) hR
  have hT_1 := qTp_fr hG1 (by decide) hT
  have hF_1 := qRF_fr hG1 (by decide) (by decide) hF
  have hP_1 := qRP_fr hG1 (by decide) (by decide) hP
  have hH_1 := qRH_fr hG1 (by decide) (by decide) hH
  have hD_1 := qRL_fr hG1 (by decide) (by decide) hD
  have hN_1 := qRN_fr hG1 (by decide) hN
  have hB_1 := qRT_fr hG1 (by decide) (by decide) hB
  have hC_1 := qRC_fr hG1 (by decide) (by decide) (by decide) (by decide) hC
  have hS_1 := qSt_fr hG1 (by decide) (by decide) hS
  have hW_1 := qRS_fr hG1 (by decide) (by decide) hW
  have hZ_1 := qPZ_fr hG1 (by decide) (by decide) hZ
  show qr_W (qe L xs vb) 100 qx_e0 lw_Q0 (378, [(3, .int (qz i)), (2, .ref 86), (1, .ref 16), (0, .ref 0)], [.int (qz v1)], qw σ1 α1 κ ρ, 109, 19340)
  refine qr_pop 379 (qf_3 (by decide) rfl) rfl rfl ?_
  refine qr_aload_n 380 (qf_3 (by decide) rfl) rfl rfl ?_
  refine qr_aload_n 381 (qf_3 (by decide) rfl) rfl rfl ?_
  refine qr_iload_n 382 (qf_3 (by decide) rfl) rfl rfl ?_
  refine qr_iconst 383 (qf_3 (by decide) rfl) rfl ?_
  refine qr_iadd 384 (qf_3 (by decide) rfl) rfl ?_
  refine qr_iaload 385 (qf_3 (by decide) rfl) rfl (by omega) (by omega) rfl ?_
  refine qy_v (xs ((i + 1) : Int).toNat) rfl ?_
  refine qr_aload_n 386 (qf_3 (by decide) rfl) rfl rfl ?_
  refine qr_iload_n 387 (qf_3 (by decide) rfl) rfl rfl ?_
  refine qr_iconst 388 (qf_3 (by decide) rfl) rfl ?_
  refine qr_iadd 389 (qf_3 (by decide) rfl) rfl ?_
  refine qr_iaload 390 (qf_3 (by decide) rfl) rfl (by omega) (by omega) rfl ?_
  refine qy_v (xs ((i + 2) : Int).toNat) rfl ?_
  refine qr_call 393 109 19340 (qf_3 (by decide) rfl) rfl (Nat.le_of_ble_eq_true rfl) (Nat.le_of_ble_eq_true rfl) rfl rfl (sf_184_86x (d := 97) hI1 (rx _) (rx _) (by omega)) ?_
  rintro _ _ ⟨σ2, α2, rfl, hI2, hG2, v2, rfl, hv2, hp2⟩
  have k2_16_15 : σ2 16 15 = σ1 16 15 := hG2.1 16 15 (by decide)
  have k2_58_12 : σ2 58 12 = σ1 58 12 := hG2.1 58 12 (by decide)
  have k2_86_4 : σ2 86 4 = σ1 86 4 := hG2.1 86 4 (by decide)
  have k2_86_5 : σ2 86 5 = σ1 86 5 := hG2.1 86 5 (by decide)
  have k2_86_32 : σ2 86 32 = σ1 86 32 := hG2.1 86 32 (by decide)
  have hR_2 := qR_fr hG2 (by decide) (by decide) hR_1
  have hT_2 := qTp_fr hG2 (by decide) hT_1
  have hF_2 := qRF_fr hG2 (by decide) (by decide) hF_1
  have hP_2 := qRP_fr hG2 (by decide) (by decide) hP_1
  have hH_2 := qRH_fr hG2 (by decide) (by decide) hH_1
  have hD_2 := qRL_fr hG2 (by decide) (by decide) hD_1
  have hN_2 := qRN_fr hG2 (by decide) hN_1
  have hB_2 := qRT_fr hG2 (by decide) (by decide) hB_1
  have hC_2 := qRC_fr hG2 (by decide) (by decide) (by decide) (by decide) hC_1
  have hS_2 := qSt_fr hG2 (by decide) (by decide) hS_1
  have hW_2 := qRS_fr hG2 (by decide) (by decide) hW_1
  have hZ_2 := qPZ_fr hG2 (by decide) (by decide) hZ_1
  obtain ⟨hv, hRb, hKb⟩ := rl_kin hI hj0 hR hK hG1 hG2 hp1 hp2
  show qr_W (qe L xs vb) 100 qx_e0 lw_Q0 (393, [(3, .int (qz i)), (2, .ref 86), (1, .ref 16), (0, .ref 0)], [.int (qz v2)], qw σ2 α2 κ ρ, 109, 19340)
  refine qr_pop 394 (qf_3 (by decide) rfl) rfl rfl ?_
  refine qr_goto 2036 (qf_3 (by decide) rfl) rfl ?_
  exact lw_end hL hi rx (hk _ _ _ _ ⟨hI2, by omega, by omega, by omega, hZ_2, hRb, hKb, hT_2, hF_2, hP_2, hH_2, hD_2, hN_2, hB_2, hC_2, hS_2, hW_2⟩)
set_option maxHeartbeats 4000000 in
set_option maxRecDepth 20000 in
theorem lw_c5 {L : Nat} {xs : Nat → Int} {vb : Bool} {i : Int} {σ α : Nat → Nat → Int} {κ : Nat → Option Nat} {ρ : Nat} (hL : L ≤ 3072) (hi : 0 ≤ i ∧ i + 6 ≤ (L : Int)) (rx : ∀ k, -2147483648 ≤ xs k ∧ xs k ≤ 2147483647) (hJ : lw_J i σ α κ ρ) (hk : ∀ σ' α' κ' ρ', lw_J (i + 6) σ' α' κ' ρ' → qr_W (qe L xs vb) 100 qx_e0 lw_Q0 (18, [(3, .int (qz (i + 6))), (2, .ref 86), (1, .ref 16), (0, .ref 0)], [], qw σ' α' κ' ρ', 109, 19340)) : qr_W (qe L xs vb) 100 qx_e0 lw_Q0 (397, [(3, .int (qz i)), (2, .ref 86), (1, .ref 16), (0, .ref 0)], [], qw σ α κ ρ, 109, 19340) := by
  obtain ⟨hI, hj0, hj1, hj2, hZ, hR, hK, hT, hF, hP, hH, hD, hN, hB, hC, hS, hW⟩ := hJ
  refine qr_aload_n 398 (qf_3 (by decide) rfl) rfl rfl ?_
  refine qr_aload_n 399 (qf_3 (by decide) rfl) rfl rfl ?_
  refine qr_iload_n 400 (qf_3 (by decide) rfl) rfl rfl ?_
  refine qr_iconst 401 (qf_3 (by decide) rfl) rfl ?_
  refine qr_iadd 402 (qf_3 (by decide) rfl) rfl ?_
  refine qr_iaload 403 (qf_3 (by decide) rfl) rfl (by omega) (by omega) rfl ?_
  refine qy_v (xs ((i + 1) : Int).toNat) rfl ?_
  refine qr_aload_n 404 (qf_3 (by decide) rfl) rfl rfl ?_
  refine qr_iload_n 405 (qf_3 (by decide) rfl) rfl rfl ?_
  refine qr_iconst 406 (qf_3 (by decide) rfl) rfl ?_
  refine qr_iadd 407 (qf_3 (by decide) rfl) rfl ?_
  refine qr_iaload 408 (qf_3 (by decide) rfl) rfl (by omega) (by omega) rfl ?_
  refine qy_v (xs ((i + 2) : Int).toNat) rfl ?_
  refine qr_call 411 109 19340 (qf_3 (by decide) rfl) rfl (Nat.le_of_ble_eq_true rfl) (Nat.le_of_ble_eq_true rfl) rfl rfl (sf_59_16x (d := 98) hI (rx _) (rx _)) ?_
  rintro _ _ ⟨rfl, v1, rfl, hv1, hp1⟩
  show qr_W (qe L xs vb) 100 qx_e0 lw_Q0 (411, [(3, .int (qz i)), (2, .ref 86), (1, .ref 16), (0, .ref 0)], [.int (qz v1)], qw σ α κ ρ, 109, 19340)
  refine qr_pop 412 (qf_3 (by decide) rfl) rfl rfl ?_
  refine qr_aload_n 413 (qf_3 (by decide) rfl) rfl rfl ?_
  refine qr_aload_n 414 (qf_3 (by decide) rfl) rfl rfl ?_
  refine qr_iload_n 415 (qf_3 (by decide) rfl) rfl rfl ?_
  refine qr_iconst 416 (qf_3 (by decide) rfl) rfl ?_
  refine qr_iadd 417 (qf_3 (by decide) rfl) rfl ?_
  refine qr_iaload 418 (qf_3 (by decide) rfl) rfl (by omega) (by omega) rfl ?_
  refine qy_v (xs ((i + 1) : Int).toNat) rfl ?_
  refine qr_aload_n 419 (qf_3 (by decide) rfl) rfl rfl ?_
  refine qr_iload_n 420 (qf_3 (by decide) rfl) rfl rfl ?_
  refine qr_iconst 421 (qf_3 (by decide) rfl) rfl ?_
  refine qr_iadd 422 (qf_3 (by decide) rfl) rfl ?_
  refine qr_iaload 423 (qf_4 (by decide) rfl) rfl (by omega) (by omega) rfl ?_
  refine qy_v (xs ((i + 2) : Int).toNat) rfl ?_
  refine qr_call 426 109 19340 (qf_4 (by decide) rfl) rfl (Nat.le_of_ble_eq_true rfl) (Nat.le_of_ble_eq_true rfl) rfl rfl (sf_186_86x (d := 96) hI (rx _) (rx _)) ?_
  rintro _ _ ⟨σ2, α2, rfl, hI2, hG2, v2, rfl, hv2, hp2⟩
  have k2_16_15 : σ2 16 15 = σ 16 15 := hG2.1 16 15 (by decide)
  have k2_58_12 : σ2 58 12 = σ 58 12 := hG2.1 58 12 (by decide)
  have k2_86_4 : σ2 86 4 = σ 86 4 := hG2.1 86 4 (by decide)
  have k2_86_5 : σ2 86 5 = σ 86 5 := hG2.1 86 5 (by decide)
  have k2_86_11 : σ2 86 11 = σ 86 11 := hG2.1 86 11 (by decide)
  have k2_86_32 : σ2 86 32 = σ 86 32 := hG2.1 86 32 (by decide)
  have hR_2 := qR_fr hG2 (by decide) (by decide) hR
  have hK_2 := qR2_fr hG2 (by decide) (by decide) hK
  have hT_2 := qTp_fr hG2 (by decide) hT
  have hF_2 := qRF_fr hG2 (by decide) (by decide) hF
  have hP_2 := qRP_fr hG2 (by decide) (by decide) hP
  have hH_2 := qRH_fr hG2 (by decide) (by decide) hH
  have hD_2 := qRL_fr hG2 (by decide) (by decide) hD
  have hN_2 := qRN_fr hG2 (by decide) hN
  have hB_2 := qRT_fr hG2 (by decide) (by decide) hB
  have hC_2 := qRC_fr hG2 (by decide) (by decide) (by decide) (by decide) hC
  have hS_2 := qSt_fr hG2 (by decide) (by decide) hS
  have hW_2 := qRS_fr hG2 (by decide) (by decide) hW
  have hZ_2 := qPZ_fr hG2 (by decide) (by decide) hZ
  show qr_W (qe L xs vb) 100 qx_e0 lw_Q0 (426, [(3, .int (qz i)), (2, .ref 86), (1, .ref 16), (0, .ref 0)], [.int (qz v2)], qw σ2 α2 κ ρ, 109, 19340)
  refine qr_pop 427 (qf_4 (by decide) rfl) rfl rfl ?_
  refine qr_goto 2036 (qf_4 (by decide) rfl) rfl ?_
  exact lw_end hL hi rx (hk _ _ _ _ ⟨hI2, by omega, by omega, by omega, hZ_2, hR_2, hK_2, hT_2, hF_2, hP_2, hH_2, hD_2, hN_2, hB_2, hC_2, hS_2, hW_2⟩)
set_option maxHeartbeats 4000000 in
set_option maxRecDepth 20000 in
theorem lw_c6 {L : Nat} {xs : Nat → Int} {vb : Bool} {i : Int} {σ α : Nat → Nat → Int} {κ : Nat → Option Nat} {ρ : Nat} (hL : L ≤ 3072) (hi : 0 ≤ i ∧ i + 6 ≤ (L : Int)) (rx : ∀ k, -2147483648 ≤ xs k ∧ xs k ≤ 2147483647) (hJ : lw_J i σ α κ ρ) (hk : ∀ σ' α' κ' ρ', lw_J (i + 6) σ' α' κ' ρ' → qr_W (qe L xs vb) 100 qx_e0 lw_Q0 (18, [(3, .int (qz (i + 6))), (2, .ref 86), (1, .ref 16), (0, .ref 0)], [], qw σ' α' κ' ρ', 109, 19340)) : qr_W (qe L xs vb) 100 qx_e0 lw_Q0 (430, [(3, .int (qz i)), (2, .ref 86), (1, .ref 16), (0, .ref 0)], [], qw σ α κ ρ, 109, 19340) := by
  obtain ⟨hI, hj0, hj1, hj2, hZ, hR, hK, hT, hF, hP, hH, hD, hN, hB, hC, hS, hW⟩ := hJ
  refine qr_aload_n 431 (qf_4 (by decide) rfl) rfl rfl ?_
  refine qr_aload_n 432 (qf_4 (by decide) rfl) rfl rfl ?_
  refine qr_iload_n 433 (qf_4 (by decide) rfl) rfl rfl ?_
  refine qr_iconst 434 (qf_4 (by decide) rfl) rfl ?_
  refine qr_iadd 435 (qf_4 (by decide) rfl) rfl ?_
  refine qr_iaload 436 (qf_4 (by decide) rfl) rfl (by omega) (by omega) rfl ?_
  refine qy_v (xs ((i + 1) : Int).toNat) rfl ?_
  refine qr_aload_n 437 (qf_4 (by decide) rfl) rfl rfl ?_
  refine qr_iload_n 438 (qf_4 (by decide) rfl) rfl rfl ?_
  refine qr_iconst 439 (qf_4 (by decide) rfl) rfl ?_
  refine qr_iadd 440 (qf_4 (by decide) rfl) rfl ?_
  refine qr_iaload 441 (qf_4 (by decide) rfl) rfl (by omega) (by omega) rfl ?_
  refine qy_v (xs ((i + 2) : Int).toNat) rfl ?_
  refine qr_aload_n 442 (qf_4 (by decide) rfl) rfl rfl ?_
  refine qr_iload_n 443 (qf_4 (by decide) rfl) rfl rfl ?_
  refine qr_iconst 444 (qf_4 (by decide) rfl) rfl ?_
  refine qr_iadd 445 (qf_4 (by decide) rfl) rfl ?_
  refine qr_iaload 446 (qf_4 (by decide) rfl) rfl (by omega) (by omega) rfl ?_
  refine qy_v (xs ((i + 3) : Int).toNat) rfl ?_
  refine qr_call 449 109 19340 (qf_4 (by decide) rfl) rfl (Nat.le_of_ble_eq_true rfl) (Nat.le_of_ble_eq_true rfl) rfl rfl (sf_60_16z (d := 97) hI (rx _) (rx _) (rx _)) ?_
  rintro _ _ ⟨σ1, α1, rfl, hI1, hG1, v1, rfl, hv1, hp1⟩
  have k1_16_15 : σ1 16 15 = σ 16 15 := hG1.1 16 15 (by decide)
  have k1_58_12 : σ1 58 12 = σ 58 12 := hG1.1 58 12 (by decide)
  have k1_86_4 : σ1 86 4 = σ 86 4 := hG1.1 86 4 (by decide)
  have k1_86_5 : σ1 86 5 = σ 86 5 := hG1.1 86 5 (by decide)
  have k1_86_11 : σ1 86 11 = σ 86 11 := hG1.1 86 11 (by decide)
  have k1_86_32 : σ1 86 32 = σ 86 32 := hG1.1 86 32 (by decide)
  have hK_1 := qR2_fr hG1 (by decide) (by decide) hK
  have hT_1 := qTp_fr hG1 (by decide) hT
  have hP_1 := qRP_fr hG1 (by decide) (by decide) hP
  have hD_1 := qRL_fr hG1 (by decide) (by decide) hD
  have hN_1 := qRN_fr hG1 (by decide) hN
  have hB_1 := qRT_fr hG1 (by decide) (by decide) hB
  have hC_1 := qRC_fr hG1 (by decide) (by decide) (by decide) (by decide) hC
  have hS_1 := qSt_fr hG1 (by decide) (by decide) hS
  have hW_1 := qRS_fr hG1 (by decide) (by decide) hW
  have hZ_1 := qPZ_fr hG1 (by decide) (by decide) hZ
  show qr_W (qe L xs vb) 100 qx_e0 lw_Q0 (449, [(3, .int (qz i)), (2, .ref 86), (1, .ref 16), (0, .ref 0)], [.int (qz v1)], qw σ1 α1 κ ρ, 109, 19340)
  refine qr_pop 450 (qf_4 (by decide) rfl) rfl rfl ?_
  refine qr_aload_n 451 (qf_4 (by decide) rfl) rfl rfl ?_
  refine qr_aload_n 452 (qf_4 (by decide) rfl) rfl rfl ?_
  refine qr_iload_n 453 (qf_4 (by decide) rfl) rfl rfl ?_
  refine qr_iconst 454 (qf_4 (by decide) rfl) rfl ?_
  refine qr_iadd 455 (qf_4 (by decide) rfl) rfl ?_
  refine qr_iaload 456 (qf_4 (by decide) rfl) rfl (by omega) (by omega) rfl ?_
  refine qy_v (xs ((i + 1) : Int).toNat) rfl ?_
  refine qr_aload_n 457 (qf_4 (by decide) rfl) rfl rfl ?_
  refine qr_iload_n 458 (qf_4 (by decide) rfl) rfl rfl ?_
  refine qr_iconst 459 (qf_4 (by decide) rfl) rfl ?_
  refine qr_iadd 460 (qf_4 (by decide) rfl) rfl ?_
  refine qr_iaload 461 (qf_4 (by decide) rfl) rfl (by omega) (by omega) rfl ?_
  refine qy_v (xs ((i + 2) : Int).toNat) rfl ?_
  refine qr_aload_n 462 (qf_4 (by decide) rfl) rfl rfl ?_
  refine qr_iload_n 463 (qf_4 (by decide) rfl) rfl rfl ?_
  refine qr_iconst 464 (qf_4 (by decide) rfl) rfl ?_
  refine qr_iadd 465 (qf_4 (by decide) rfl) rfl ?_
  refine qr_iaload 466 (qf_4 (by decide) rfl) rfl (by omega) (by omega) rfl ?_
  refine qy_v (xs ((i + 3) : Int).toNat) rfl ?_
  refine qr_call 469 109 19340 (qf_4 (by decide) rfl) rfl (Nat.le_of_ble_eq_true rfl) (Nat.le_of_ble_eq_true rfl) rfl rfl (sf_190_86z (d := 96) hI1 (rx _) (rx _) (rx _)) ?_
  rintro _ _ ⟨σ2, α2, rfl, hI2, hG2, v2, rfl, hv2, hp2⟩
  have k2_16_15 : σ2 16 15 = σ1 16 15 := hG2.1 16 15 (by decide)
  have k2_58_12 : σ2 58 12 = σ1 58 12 := hG2.1 58 12 (by decide)
  have k2_86_4 : σ2 86 4 = σ1 86 4 := hG2.1 86 4 (by decide)
  have k2_86_5 : σ2 86 5 = σ1 86 5 := hG2.1 86 5 (by decide)
  have k2_86_11 : σ2 86 11 = σ1 86 11 := hG2.1 86 11 (by decide)
  have k2_86_32 : σ2 86 32 = σ1 86 32 := hG2.1 86 32 (by decide)
  have hK_2 := qR2_fr hG2 (by decide) (by decide) hK_1
  have hT_2 := qTp_fr hG2 (by decide) hT_1
  have hP_2 := qRP_fr hG2 (by decide) (by decide) hP_1
  have hD_2 := qRL_fr hG2 (by decide) (by decide) hD_1
  have hN_2 := qRN_fr hG2 (by decide) hN_1
  have hB_2 := qRT_fr hG2 (by decide) (by decide) hB_1
  have hC_2 := qRC_fr hG2 (by decide) (by decide) (by decide) (by decide) hC_1
  have hS_2 := qSt_fr hG2 (by decide) (by decide) hS_1
  have hZ_2 : qPZ σ2 α2 := qPZ_feud hI1 hp2 hZ_1
  obtain ⟨hv, hRb, hFb, hHb⟩ := ro_feud hI hR hF hH hG1 hG2 hp1 hp2
  have hWb := rs_feud hI1 (by have hq : 0 ≤ σ 86 5 ∧ σ 86 5 ≤ σ 86 4 ∧ σ 86 4 ≤ 40 := hH.1.2.2.1; omega) hG2 hp2 hW_1
  show qr_W (qe L xs vb) 100 qx_e0 lw_Q0 (469, [(3, .int (qz i)), (2, .ref 86), (1, .ref 16), (0, .ref 0)], [.int (qz v2)], qw σ2 α2 κ ρ, 109, 19340)
  refine qr_pop 470 (qf_4 (by decide) rfl) rfl rfl ?_
  refine qr_goto 2036 (qf_4 (by decide) rfl) rfl ?_
  exact lw_end hL hi rx (hk _ _ _ _ ⟨hI2, by omega, by omega, by omega, hZ_2, hRb, hK_2, hT_2, hFb, hP_2, hHb, hD_2, hN_2, hB_2, hC_2, hS_2, hWb⟩)
set_option maxHeartbeats 4000000 in
set_option maxRecDepth 20000 in
theorem lw_c7 {L : Nat} {xs : Nat → Int} {vb : Bool} {i : Int} {σ α : Nat → Nat → Int} {κ : Nat → Option Nat} {ρ : Nat} (hL : L ≤ 3072) (hi : 0 ≤ i ∧ i + 6 ≤ (L : Int)) (rx : ∀ k, -2147483648 ≤ xs k ∧ xs k ≤ 2147483647) (hJ : lw_J i σ α κ ρ) (hk : ∀ σ' α' κ' ρ', lw_J (i + 6) σ' α' κ' ρ' → qr_W (qe L xs vb) 100 qx_e0 lw_Q0 (18, [(3, .int (qz (i + 6))), (2, .ref 86), (1, .ref 16), (0, .ref 0)], [], qw σ' α' κ' ρ', 109, 19340)) : qr_W (qe L xs vb) 100 qx_e0 lw_Q0 (473, [(3, .int (qz i)), (2, .ref 86), (1, .ref 16), (0, .ref 0)], [], qw σ α κ ρ, 109, 19340) := by
  obtain ⟨hI, hj0, hj1, hj2, hZ, hR, hK, hT, hF, hP, hH, hD, hN, hB, hC, hS, hW⟩ := hJ
  refine qr_aload_n 474 (qf_4 (by decide) rfl) rfl rfl ?_
  refine qr_aload_n 475 (qf_4 (by decide) rfl) rfl rfl ?_
  refine qr_iload_n 476 (qf_4 (by decide) rfl) rfl rfl ?_
  refine qr_iconst 477 (qf_4 (by decide) rfl) rfl ?_
  refine qr_iadd 478 (qf_4 (by decide) rfl) rfl ?_
  refine qr_iaload 479 (qf_4 (by decide) rfl) rfl (by omega) (by omega) rfl ?_
  refine qy_v (xs ((i + 1) : Int).toNat) rfl ?_
  refine qr_aload_n 480 (qf_4 (by decide) rfl) rfl rfl ?_
  refine qr_iload_n 481 (qf_4 (by decide) rfl) rfl rfl ?_
  refine qr_iconst 482 (qf_4 (by decide) rfl) rfl ?_
  refine qr_iadd 483 (qf_5 (by decide) rfl) rfl ?_
  refine qr_iaload 484 (qf_5 (by decide) rfl) rfl (by omega) (by omega) rfl ?_
  refine qy_v (xs ((i + 2) : Int).toNat) rfl ?_
  refine qr_call 487 109 19340 (qf_5 (by decide) rfl) rfl (Nat.le_of_ble_eq_true rfl) (Nat.le_of_ble_eq_true rfl) rfl rfl (sf_64_16x (d := 96) hI (rx _) (rx _) hH.1) ?_
  rintro _ _ ⟨σ1, α1, rfl, hI1, hG1, v1, rfl, hv1, hx1_0⟩
  have k1_16_15 : σ1 16 15 = σ 16 15 := hG1.1 16 15 (by decide)
  have k1_58_12 : σ1 58 12 = σ 58 12 := hG1.1 58 12 (by decide)
  have k1_86_4 : σ1 86 4 = σ 86 4 := hG1.1 86 4 (by decide)
  have k1_86_5 : σ1 86 5 = σ 86 5 := hG1.1 86 5 (by decide)
  have k1_86_11 : σ1 86 11 = σ 86 11 := hG1.1 86 11 (by decide)
  have k1_86_32 : σ1 86 32 = σ 86 32 := hG1.1 86 32 (by decide)
  have hR_1 := qR_fr hG1 (by decide) (by decide) hR
  have hK_1 := qR2_fr hG1 (by decide) (by decide) hK
  have hT_1 := qTp_fr hG1 (by decide) hT
  have hF_1 := qRF_fr hG1 (by decide) (by decide) hF
  have hP_1 := qRP_fr hG1 (by decide) (by decide) hP
  have hD_1 := qRL_fr hG1 (by decide) (by decide) hD
  have hN_1 := qRN_fr hG1 (by decide) hN
  have hB_1 := qRT_fr hG1 (by decide) (by decide) hB
  have hC_1 := qRC_fr hG1 (by decide) (by decide) (by decide) (by decide) hC
  have hS_1 := qSt_fr hG1 (by decide) (by decide) hS
  have hW_1 := qRS_fr hG1 (by decide) (by decide) hW
  have hZ_1 := qPZ_fr hG1 (by decide) (by decide) hZ
  show qr_W (qe L xs vb) 100 qx_e0 lw_Q0 (487, [(3, .int (qz i)), (2, .ref 86), (1, .ref 16), (0, .ref 0)], [.int (qz v1)], qw σ1 α1 κ ρ, 109, 19340)
  refine qr_pop 488 (qf_5 (by decide) rfl) rfl rfl ?_
  refine qr_aload_n 489 (qf_5 (by decide) rfl) rfl rfl ?_
  refine qr_aload_n 490 (qf_5 (by decide) rfl) rfl rfl ?_
  refine qr_iload_n 491 (qf_5 (by decide) rfl) rfl rfl ?_
  refine qr_iconst 492 (qf_5 (by decide) rfl) rfl ?_
  refine qr_iadd 493 (qf_5 (by decide) rfl) rfl ?_
  refine qr_iaload 494 (qf_5 (by decide) rfl) rfl (by omega) (by omega) rfl ?_
  refine qy_v (xs ((i + 1) : Int).toNat) rfl ?_
  refine qr_aload_n 495 (qf_5 (by decide) rfl) rfl rfl ?_
  refine qr_iload_n 496 (qf_5 (by decide) rfl) rfl rfl ?_
  refine qr_iconst 497 (qf_5 (by decide) rfl) rfl ?_
  refine qr_iadd 498 (qf_5 (by decide) rfl) rfl ?_
  refine qr_iaload 499 (qf_5 (by decide) rfl) rfl (by omega) (by omega) rfl ?_
  refine qy_v (xs ((i + 2) : Int).toNat) rfl ?_
  refine qr_call 502 109 19340 (qf_5 (by decide) rfl) rfl (Nat.le_of_ble_eq_true rfl) (Nat.le_of_ble_eq_true rfl) rfl rfl (sf_193_86x (d := 98) hI1 (rx _) (rx _)) ?_
  rintro _ _ ⟨σ2, α2, rfl, hI2, hG2, v2, rfl, hv2, hx2_0⟩
  have k2_16_15 : σ2 16 15 = σ1 16 15 := hG2.1 16 15 (by decide)
  have k2_58_12 : σ2 58 12 = σ1 58 12 := hG2.1 58 12 (by decide)
  have k2_86_11 : σ2 86 11 = σ1 86 11 := hG2.1 86 11 (by decide)
  have k2_86_32 : σ2 86 32 = σ1 86 32 := hG2.1 86 32 (by decide)
  have hR_2 := qR_fr hG2 (by decide) (by decide) hR_1
  have hK_2 := qR2_fr hG2 (by decide) (by decide) hK_1
  have hT_2 := qTp_fr hG2 (by decide) hT_1
  have hF_2 := qRF_fr hG2 (by decide) (by decide) hF_1
  have hP_2 := qRP_fr hG2 (by decide) (by decide) hP_1
  have hD_2 := qRL_fr hG2 (by decide) (by decide) hD_1
  have hN_2 := qRN_fr hG2 (by decide) hN_1
  have hB_2 := qRT_fr hG2 (by decide) (by decide) hB_1
  have hC_2 := qRC_fr hG2 (by decide) (by decide) (by decide) (by decide) hC_1
  have hS_2 := qSt_fr hG2 (by decide) (by decide) hS_1
  have hZ_2 := qPZ_fr hG2 (by decide) (by decide) hZ_1
  obtain ⟨hv, hHb⟩ := ro_pay hI hR hH hG1 hG2 hx1_0 hx2_0
  have hWb := rs_pay hI1 (by have hq : 0 ≤ σ 86 5 ∧ σ 86 5 ≤ σ 86 4 ∧ σ 86 4 ≤ 40 := hH.1.2.2.1; omega) hG2 hx2_0 hW_1
  show qr_W (qe L xs vb) 100 qx_e0 lw_Q0 (502, [(3, .int (qz i)), (2, .ref 86), (1, .ref 16), (0, .ref 0)], [.int (qz v2)], qw σ2 α2 κ ρ, 109, 19340)
  refine qr_pop 503 (qf_5 (by decide) rfl) rfl rfl ?_
  refine qr_goto 2036 (qf_5 (by decide) rfl) rfl ?_
  exact lw_end hL hi rx (hk _ _ _ _ ⟨hI2, by omega, by omega, by omega, hZ_2, hR_2, hK_2, hT_2, hF_2, hP_2, hHb, hD_2, hN_2, hB_2, hC_2, hS_2, hWb⟩)
set_option maxHeartbeats 4000000 in
set_option maxRecDepth 20000 in
theorem lw_c8 {L : Nat} {xs : Nat → Int} {vb : Bool} {i : Int} {σ α : Nat → Nat → Int} {κ : Nat → Option Nat} {ρ : Nat} (hL : L ≤ 3072) (hi : 0 ≤ i ∧ i + 6 ≤ (L : Int)) (rx : ∀ k, -2147483648 ≤ xs k ∧ xs k ≤ 2147483647) (hJ : lw_J i σ α κ ρ) (hk : ∀ σ' α' κ' ρ', lw_J (i + 6) σ' α' κ' ρ' → qr_W (qe L xs vb) 100 qx_e0 lw_Q0 (18, [(3, .int (qz (i + 6))), (2, .ref 86), (1, .ref 16), (0, .ref 0)], [], qw σ' α' κ' ρ', 109, 19340)) : qr_W (qe L xs vb) 100 qx_e0 lw_Q0 (506, [(3, .int (qz i)), (2, .ref 86), (1, .ref 16), (0, .ref 0)], [], qw σ α κ ρ, 109, 19340) := by
  obtain ⟨hI, hj0, hj1, hj2, hZ, hR, hK, hT, hF, hP, hH, hD, hN, hB, hC, hS, hW⟩ := hJ
  refine qr_aload_n 507 (qf_5 (by decide) rfl) rfl rfl ?_
  refine qr_aload_n 508 (qf_5 (by decide) rfl) rfl rfl ?_
  refine qr_iload_n 509 (qf_5 (by decide) rfl) rfl rfl ?_
  refine qr_iconst 510 (qf_5 (by decide) rfl) rfl ?_
  refine qr_iadd 511 (qf_5 (by decide) rfl) rfl ?_
  refine qr_iaload 512 (qf_5 (by decide) rfl) rfl (by omega) (by omega) rfl ?_
  refine qy_v (xs ((i + 1) : Int).toNat) rfl ?_
  refine qr_aload_n 513 (qf_5 (by decide) rfl) rfl rfl ?_
  refine qr_iload_n 514 (qf_5 (by decide) rfl) rfl rfl ?_
  refine qr_iconst 515 (qf_5 (by decide) rfl) rfl ?_
  refine qr_iadd 516 (qf_5 (by decide) rfl) rfl ?_
  refine qr_iaload 517 (qf_5 (by decide) rfl) rfl (by omega) (by omega) rfl ?_
  refine qy_v (xs ((i + 2) : Int).toNat) rfl ?_
  refine qr_aload_n 518 (qf_5 (by decide) rfl) rfl rfl ?_
  refine qr_iload_n 519 (qf_5 (by decide) rfl) rfl rfl ?_
  refine qr_iconst 520 (qf_5 (by decide) rfl) rfl ?_
  refine qr_iadd 521 (qf_5 (by decide) rfl) rfl ?_
  refine qr_iaload 522 (qf_5 (by decide) rfl) rfl (by omega) (by omega) rfl ?_
  refine qy_v (xs ((i + 3) : Int).toNat) rfl ?_
  refine qr_aload_n 523 (qf_5 (by decide) rfl) rfl rfl ?_
  refine qr_iload_n 524 (qf_5 (by decide) rfl) rfl rfl ?_
  refine qr_iconst 525 (qf_5 (by decide) rfl) rfl ?_
  refine qr_iadd 526 (qf_5 (by decide) rfl) rfl ?_
  refine qr_iaload 527 (qf_5 (by decide) rfl) rfl (by omega) (by omega) rfl ?_
  refine qy_v (xs ((i + 4) : Int).toNat) rfl ?_
  refine qr_call 530 109 19340 (qf_5 (by decide) rfl) rfl (Nat.le_of_ble_eq_true rfl) (Nat.le_of_ble_eq_true rfl) rfl rfl (sf_65_16 (d := 97) hI (rx _) (rx _) (rx _) (rx _)) ?_
  rintro _ _ ⟨rfl, v1, rfl, hv1⟩
  show qr_W (qe L xs vb) 100 qx_e0 lw_Q0 (530, [(3, .int (qz i)), (2, .ref 86), (1, .ref 16), (0, .ref 0)], [.int (qz v1)], qw σ α κ ρ, 109, 19340)
  refine qr_pop 531 (qf_5 (by decide) rfl) rfl rfl ?_
  refine qr_aload_n 532 (qf_5 (by decide) rfl) rfl rfl ?_
  refine qr_aload_n 533 (qf_5 (by decide) rfl) rfl rfl ?_
  refine qr_iload_n 534 (qf_5 (by decide) rfl) rfl rfl ?_
  refine qr_iconst 535 (qf_5 (by decide) rfl) rfl ?_
  refine qr_iadd 536 (qf_5 (by decide) rfl) rfl ?_
  refine qr_iaload 537 (qf_5 (by decide) rfl) rfl (by omega) (by omega) rfl ?_
  refine qy_v (xs ((i + 1) : Int).toNat) rfl ?_
  refine qr_aload_n 538 (qf_5 (by decide) rfl) rfl rfl ?_
  refine qr_iload_n 539 (qf_5 (by decide) rfl) rfl rfl ?_
  refine qr_iconst 540 (qf_5 (by decide) rfl) rfl ?_
  refine qr_iadd 541 (qf_6 (by decide) rfl) rfl ?_
  refine qr_iaload 542 (qf_6 (by decide) rfl) rfl (by omega) (by omega) rfl ?_
  refine qy_v (xs ((i + 2) : Int).toNat) rfl ?_
  refine qr_aload_n 543 (qf_6 (by decide) rfl) rfl rfl ?_
  refine qr_iload_n 544 (qf_6 (by decide) rfl) rfl rfl ?_
  refine qr_iconst 545 (qf_6 (by decide) rfl) rfl ?_
  refine qr_iadd 546 (qf_6 (by decide) rfl) rfl ?_
  refine qr_iaload 547 (qf_6 (by decide) rfl) rfl (by omega) (by omega) rfl ?_
  refine qy_v (xs ((i + 3) : Int).toNat) rfl ?_
  refine qr_aload_n 548 (qf_6 (by decide) rfl) rfl rfl ?_
  refine qr_iload_n 549 (qf_6 (by decide) rfl) rfl rfl ?_
  refine qr_iconst 550 (qf_6 (by decide) rfl) rfl ?_
  refine qr_iadd 551 (qf_6 (by decide) rfl) rfl ?_
  refine qr_iaload 552 (qf_6 (by decide) rfl) rfl (by omega) (by omega) rfl ?_
  refine qy_v (xs ((i + 4) : Int).toNat) rfl ?_
  refine qr_call 555 109 19340 (qf_6 (by decide) rfl) rfl (Nat.le_of_ble_eq_true rfl) (Nat.le_of_ble_eq_true rfl) rfl rfl (sf_194_86 (d := 94) hI (rx _) (rx _) (rx _) (rx _)) ?_
  rintro _ _ ⟨σ2, α2, rfl, hI2, hG2, v2, rfl, hv2⟩
  have k2_16_15 : σ2 16 15 = σ 16 15 := hG2.1 16 15 (by decide)
  have k2_58_12 : σ2 58 12 = σ 58 12 := hG2.1 58 12 (by decide)
  have k2_86_4 : σ2 86 4 = σ 86 4 := hG2.1 86 4 (by decide)
  have k2_86_5 : σ2 86 5 = σ 86 5 := hG2.1 86 5 (by decide)
  have k2_86_11 : σ2 86 11 = σ 86 11 := hG2.1 86 11 (by decide)
  have k2_86_32 : σ2 86 32 = σ 86 32 := hG2.1 86 32 (by decide)
  have hR_2 := qR_fr hG2 (by decide) (by decide) hR
  have hK_2 := qR2_fr hG2 (by decide) (by decide) hK
  have hT_2 := qTp_fr hG2 (by decide) hT
  have hF_2 := qRF_fr hG2 (by decide) (by decide) hF
  have hP_2 := qRP_fr hG2 (by decide) (by decide) hP
  have hH_2 := qRH_fr hG2 (by decide) (by decide) hH
  have hD_2 := qRL_fr hG2 (by decide) (by decide) hD
  have hN_2 := qRN_fr hG2 (by decide) hN
  have hB_2 := qRT_fr hG2 (by decide) (by decide) hB
  have hC_2 := qRC_fr hG2 (by decide) (by decide) (by decide) (by decide) hC
  have hS_2 := qSt_fr hG2 (by decide) (by decide) hS
  have hW_2 := qRS_fr hG2 (by decide) (by decide) hW
  have hZ_2 := qPZ_fr hG2 (by decide) (by decide) hZ
  show qr_W (qe L xs vb) 100 qx_e0 lw_Q0 (555, [(3, .int (qz i)), (2, .ref 86), (1, .ref 16), (0, .ref 0)], [.int (qz v2)], qw σ2 α2 κ ρ, 109, 19340)
  refine qr_pop 556 (qf_6 (by decide) rfl) rfl rfl ?_
  refine qr_goto 2036 (qf_6 (by decide) rfl) rfl ?_
  exact lw_end hL hi rx (hk _ _ _ _ ⟨hI2, by omega, by omega, by omega, hZ_2, hR_2, hK_2, hT_2, hF_2, hP_2, hH_2, hD_2, hN_2, hB_2, hC_2, hS_2, hW_2⟩)
set_option maxHeartbeats 4000000 in
set_option maxRecDepth 20000 in
theorem lw_c9 {L : Nat} {xs : Nat → Int} {vb : Bool} {i : Int} {σ α : Nat → Nat → Int} {κ : Nat → Option Nat} {ρ : Nat} (hL : L ≤ 3072) (hi : 0 ≤ i ∧ i + 6 ≤ (L : Int)) (rx : ∀ k, -2147483648 ≤ xs k ∧ xs k ≤ 2147483647) (hJ : lw_J i σ α κ ρ) (hk : ∀ σ' α' κ' ρ', lw_J (i + 6) σ' α' κ' ρ' → qr_W (qe L xs vb) 100 qx_e0 lw_Q0 (18, [(3, .int (qz (i + 6))), (2, .ref 86), (1, .ref 16), (0, .ref 0)], [], qw σ' α' κ' ρ', 109, 19340)) : qr_W (qe L xs vb) 100 qx_e0 lw_Q0 (559, [(3, .int (qz i)), (2, .ref 86), (1, .ref 16), (0, .ref 0)], [], qw σ α κ ρ, 109, 19340) := by
  obtain ⟨hI, hj0, hj1, hj2, hZ, hR, hK, hT, hF, hP, hH, hD, hN, hB, hC, hS, hW⟩ := hJ
  refine qr_aload_n 560 (qf_6 (by decide) rfl) rfl rfl ?_
  refine qr_aload_n 561 (qf_6 (by decide) rfl) rfl rfl ?_
  refine qr_iload_n 562 (qf_6 (by decide) rfl) rfl rfl ?_
  refine qr_iconst 563 (qf_6 (by decide) rfl) rfl ?_
  refine qr_iadd 564 (qf_6 (by decide) rfl) rfl ?_
  refine qr_iaload 565 (qf_6 (by decide) rfl) rfl (by omega) (by omega) rfl ?_
  refine qy_v (xs ((i + 1) : Int).toNat) rfl ?_
  refine qr_aload_n 566 (qf_6 (by decide) rfl) rfl rfl ?_
  refine qr_iload_n 567 (qf_6 (by decide) rfl) rfl rfl ?_
  refine qr_iconst 568 (qf_6 (by decide) rfl) rfl ?_
  refine qr_iadd 569 (qf_6 (by decide) rfl) rfl ?_
  refine qr_iaload 570 (qf_6 (by decide) rfl) rfl (by omega) (by omega) rfl ?_
  refine qy_v (xs ((i + 2) : Int).toNat) rfl ?_
  refine qr_i2l 571 (qf_6 (by decide) rfl) (rx _) rfl ?_
  refine qr_bipush 573 (qf_6 (by decide) rfl) (by decide) rfl ?_
  refine qr_lshl 574 (qf_6 (by decide) rfl) rfl ?_
  refine qr_aload_n 575 (qf_6 (by decide) rfl) rfl rfl ?_
  refine qr_iload_n 576 (qf_6 (by decide) rfl) rfl rfl ?_
  refine qr_iconst 577 (qf_6 (by decide) rfl) rfl ?_
  refine qr_iadd 578 (qf_6 (by decide) rfl) rfl ?_
  refine qr_iaload 579 (qf_6 (by decide) rfl) rfl (by omega) (by omega) rfl ?_
  refine qy_v (xs ((i + 3) : Int).toNat) rfl ?_
  refine qr_i2l 580 (qf_6 (by decide) rfl) (rx _) rfl ?_
  refine qr_ldc2 4294967295 583 (qf_6 (by decide) rfl) (by decide) rfl ?_
  refine qr_land 584 (qf_6 (by decide) rfl) rfl ?_
  refine qr_lor 585 (qf_6 (by decide) rfl) rfl ?_
  refine qr_aload_n 586 (qf_6 (by decide) rfl) rfl rfl ?_
  refine qr_iload_n 587 (qf_6 (by decide) rfl) rfl rfl ?_
  refine qr_iconst 588 (qf_6 (by decide) rfl) rfl ?_
  refine qr_iadd 589 (qf_6 (by decide) rfl) rfl ?_
  refine qr_iaload 590 (qf_6 (by decide) rfl) rfl (by omega) (by omega) rfl ?_
  refine qy_v (xs ((i + 4) : Int).toNat) rfl ?_
  refine qr_aload_n 591 (qf_6 (by decide) rfl) rfl rfl ?_
  refine qr_iload_n 592 (qf_6 (by decide) rfl) rfl rfl ?_
  refine qr_iconst 593 (qf_6 (by decide) rfl) rfl ?_
  refine qr_iadd 594 (qf_6 (by decide) rfl) rfl ?_
  refine qr_iaload 595 (qf_6 (by decide) rfl) rfl (by omega) (by omega) rfl ?_
  refine qy_v (xs ((i + 5) : Int).toNat) rfl ?_
  refine qr_call 598 109 19340 (qf_6 (by decide) rfl) rfl (Nat.le_of_ble_eq_true rfl) (Nat.le_of_ble_eq_true rfl) rfl rfl (sf_69_16z (d := 97) hI (rx _) (ql_rng _) (rx _) (rx _)) ?_
  rintro _ _ ⟨σ1, α1, rfl, hI1, hG1, v1, rfl, hv1, hp1⟩
  have k1_16_15 : σ1 16 15 = σ 16 15 := hG1.1 16 15 (by decide)
  have k1_58_12 : σ1 58 12 = σ 58 12 := hG1.1 58 12 (by decide)
  have k1_86_4 : σ1 86 4 = σ 86 4 := hG1.1 86 4 (by decide)
  have k1_86_5 : σ1 86 5 = σ 86 5 := hG1.1 86 5 (by decide)
  have k1_86_11 : σ1 86 11 = σ 86 11 := hG1.1 86 11 (by decide)
  have k1_86_32 : σ1 86 32 = σ 86 32 := hG1.1 86 32 (by decide)
  have hK_1 := qR2_fr hG1 (by decide) (by decide) hK
  have hT_1 := qTp_fr hG1 (by decide) hT
  have hF_1 := qRF_fr hG1 (by decide) (by decide) hF
  have hD_1 := qRL_fr hG1 (by decide) (by decide) hD
  have hN_1 := qRN_fr hG1 (by decide) hN
  have hB_1 := qRT_fr hG1 (by decide) (by decide) hB
  have hC_1 := qRC_fr hG1 (by decide) (by decide) (by decide) (by decide) hC
  have hS_1 := qSt_fr hG1 (by decide) (by decide) hS
  have hW_1 := qRS_fr hG1 (by decide) (by decide) hW
  have hZ_1 := qPZ_fr hG1 (by decide) (by decide) hZ
  show qr_W (qe L xs vb) 100 qx_e0 lw_Q0 (598, [(3, .int (qz i)), (2, .ref 86), (1, .ref 16), (0, .ref 0)], [.int (qz v1)], qw σ1 α1 κ ρ, 109, 19340)
  refine qr_pop 599 (qf_6 (by decide) rfl) rfl rfl ?_
  refine qr_aload_n 600 (qf_7 (by decide) rfl) rfl rfl ?_
  refine qr_aload_n 601 (qf_7 (by decide) rfl) rfl rfl ?_
  refine qr_iload_n 602 (qf_7 (by decide) rfl) rfl rfl ?_
  refine qr_iconst 603 (qf_7 (by decide) rfl) rfl ?_
  refine qr_iadd 604 (qf_7 (by decide) rfl) rfl ?_
  refine qr_iaload 605 (qf_7 (by decide) rfl) rfl (by omega) (by omega) rfl ?_
  refine qy_v (xs ((i + 1) : Int).toNat) rfl ?_
  refine qr_aload_n 606 (qf_7 (by decide) rfl) rfl rfl ?_
  refine qr_iload_n 607 (qf_7 (by decide) rfl) rfl rfl ?_
  refine qr_iconst 608 (qf_7 (by decide) rfl) rfl ?_
  refine qr_iadd 609 (qf_7 (by decide) rfl) rfl ?_
  refine qr_iaload 610 (qf_7 (by decide) rfl) rfl (by omega) (by omega) rfl ?_
  refine qy_v (xs ((i + 2) : Int).toNat) rfl ?_
  refine qr_i2l 611 (qf_7 (by decide) rfl) (rx _) rfl ?_
  refine qr_bipush 613 (qf_7 (by decide) rfl) (by decide) rfl ?_
  refine qr_lshl 614 (qf_7 (by decide) rfl) rfl ?_
  refine qr_aload_n 615 (qf_7 (by decide) rfl) rfl rfl ?_
  refine qr_iload_n 616 (qf_7 (by decide) rfl) rfl rfl ?_
  refine qr_iconst 617 (qf_7 (by decide) rfl) rfl ?_
  refine qr_iadd 618 (qf_7 (by decide) rfl) rfl ?_
  refine qr_iaload 619 (qf_7 (by decide) rfl) rfl (by omega) (by omega) rfl ?_
  refine qy_v (xs ((i + 3) : Int).toNat) rfl ?_
  refine qr_i2l 620 (qf_7 (by decide) rfl) (rx _) rfl ?_
  refine qr_ldc2 4294967295 623 (qf_7 (by decide) rfl) (by decide) rfl ?_
  refine qr_land 624 (qf_7 (by decide) rfl) rfl ?_
  refine qr_lor 625 (qf_7 (by decide) rfl) rfl ?_
  refine qr_aload_n 626 (qf_7 (by decide) rfl) rfl rfl ?_
  refine qr_iload_n 627 (qf_7 (by decide) rfl) rfl rfl ?_
  refine qr_iconst 628 (qf_7 (by decide) rfl) rfl ?_
  refine qr_iadd 629 (qf_7 (by decide) rfl) rfl ?_
  refine qr_iaload 630 (qf_7 (by decide) rfl) rfl (by omega) (by omega) rfl ?_
  refine qy_v (xs ((i + 4) : Int).toNat) rfl ?_
  refine qr_aload_n 631 (qf_7 (by decide) rfl) rfl rfl ?_
  refine qr_iload_n 632 (qf_7 (by decide) rfl) rfl rfl ?_
  refine qr_iconst 633 (qf_7 (by decide) rfl) rfl ?_
  refine qr_iadd 634 (qf_7 (by decide) rfl) rfl ?_
  refine qr_iaload 635 (qf_7 (by decide) rfl) rfl (by omega) (by omega) rfl ?_
  refine qy_v (xs ((i + 5) : Int).toNat) rfl ?_
  refine qr_call 638 109 19340 (qf_7 (by decide) rfl) rfl (Nat.le_of_ble_eq_true rfl) (Nat.le_of_ble_eq_true rfl) rfl rfl (sf_198_86z (d := 97) hI1 (rx _) (ql_rng _) (rx _) (rx _)) ?_
  rintro _ _ ⟨σ2, α2, rfl, hI2, hG2, v2, rfl, hv2, hx2_0⟩
  have k2_16_15 : σ2 16 15 = σ1 16 15 := hG2.1 16 15 (by decide)
  have k2_58_12 : σ2 58 12 = σ1 58 12 := hG2.1 58 12 (by decide)
  have k2_86_4 : σ2 86 4 = σ1 86 4 := hG2.1 86 4 (by decide)
  have k2_86_5 : σ2 86 5 = σ1 86 5 := hG2.1 86 5 (by decide)
  have k2_86_11 : σ2 86 11 = σ1 86 11 := hG2.1 86 11 (by decide)
  have k2_86_32 : σ2 86 32 = σ1 86 32 := hG2.1 86 32 (by decide)
  have hK_2 := qR2_fr hG2 (by decide) (by decide) hK_1
  have hT_2 := qTp_fr hG2 (by decide) hT_1
  have hF_2 := qRF_fr hG2 (by decide) (by decide) hF_1
  have hD_2 := qRL_fr hG2 (by decide) (by decide) hD_1
  have hN_2 := qRN_fr hG2 (by decide) hN_1
  have hB_2 := qRT_fr hG2 (by decide) (by decide) hB_1
  have hC_2 := qRC_fr hG2 (by decide) (by decide) (by decide) (by decide) hC_1
  have hS_2 := qSt_fr hG2 (by decide) (by decide) hS_1
  have hZ_2 := qPZ_fr hG2 (by decide) (by decide) hZ_1
  obtain ⟨hv, hRb, hPb, hHb⟩ := ro_peace hI hR hP hH hG1 hG2 hp1 hx2_0
  have hWb := rs_peace hI1 (by have hq : 0 ≤ σ 86 5 ∧ σ 86 5 ≤ σ 86 4 ∧ σ 86 4 ≤ 40 := hH.1.2.2.1; omega) hG2 hx2_0 hW_1
  show qr_W (qe L xs vb) 100 qx_e0 lw_Q0 (638, [(3, .int (qz i)), (2, .ref 86), (1, .ref 16), (0, .ref 0)], [.int (qz v2)], qw σ2 α2 κ ρ, 109, 19340)
  refine qr_pop 639 (qf_7 (by decide) rfl) rfl rfl ?_
  refine qr_goto 2036 (qf_7 (by decide) rfl) rfl ?_
  exact lw_end hL hi rx (hk _ _ _ _ ⟨hI2, by omega, by omega, by omega, hZ_2, hRb, hK_2, hT_2, hF_2, hPb, hHb, hD_2, hN_2, hB_2, hC_2, hS_2, hWb⟩)
set_option maxHeartbeats 4000000 in
set_option maxRecDepth 20000 in
theorem lw_c10 {L : Nat} {xs : Nat → Int} {vb : Bool} {i : Int} {σ α : Nat → Nat → Int} {κ : Nat → Option Nat} {ρ : Nat} (hL : L ≤ 3072) (hi : 0 ≤ i ∧ i + 6 ≤ (L : Int)) (rx : ∀ k, -2147483648 ≤ xs k ∧ xs k ≤ 2147483647) (hJ : lw_J i σ α κ ρ) (hk : ∀ σ' α' κ' ρ', lw_J (i + 6) σ' α' κ' ρ' → qr_W (qe L xs vb) 100 qx_e0 lw_Q0 (18, [(3, .int (qz (i + 6))), (2, .ref 86), (1, .ref 16), (0, .ref 0)], [], qw σ' α' κ' ρ', 109, 19340)) : qr_W (qe L xs vb) 100 qx_e0 lw_Q0 (642, [(3, .int (qz i)), (2, .ref 86), (1, .ref 16), (0, .ref 0)], [], qw σ α κ ρ, 109, 19340) := by
  obtain ⟨hI, hj0, hj1, hj2, hZ, hR, hK, hT, hF, hP, hH, hD, hN, hB, hC, hS, hW⟩ := hJ
  refine qr_aload_n 643 (qf_7 (by decide) rfl) rfl rfl ?_
  refine qr_aload_n 644 (qf_7 (by decide) rfl) rfl rfl ?_
  refine qr_iload_n 645 (qf_7 (by decide) rfl) rfl rfl ?_
  refine qr_iconst 646 (qf_7 (by decide) rfl) rfl ?_
  refine qr_iadd 647 (qf_7 (by decide) rfl) rfl ?_
  refine qr_iaload 648 (qf_7 (by decide) rfl) rfl (by omega) (by omega) rfl ?_
  refine qy_v (xs ((i + 1) : Int).toNat) rfl ?_
  refine qr_aload_n 649 (qf_7 (by decide) rfl) rfl rfl ?_
  refine qr_iload_n 650 (qf_7 (by decide) rfl) rfl rfl ?_
  refine qr_iconst 651 (qf_7 (by decide) rfl) rfl ?_
  refine qr_iadd 652 (qf_7 (by decide) rfl) rfl ?_
  refine qr_iaload 653 (qf_7 (by decide) rfl) rfl (by omega) (by omega) rfl ?_
  refine qy_v (xs ((i + 2) : Int).toNat) rfl ?_
  refine qr_call 656 109 19340 (qf_7 (by decide) rfl) rfl (Nat.le_of_ble_eq_true rfl) (Nat.le_of_ble_eq_true rfl) rfl rfl (sf_72_16 (d := 98) hI (rx _) (rx _)) ?_
  rintro _ _ ⟨rfl, v1, rfl, hv1⟩
  show qr_W (qe L xs vb) 100 qx_e0 lw_Q0 (656, [(3, .int (qz i)), (2, .ref 86), (1, .ref 16), (0, .ref 0)], [.int (qz v1)], qw σ α κ ρ, 109, 19340)
  refine qr_pop 657 (qf_7 (by decide) rfl) rfl rfl ?_
  refine qr_aload_n 658 (qf_7 (by decide) rfl) rfl rfl ?_
  refine qr_aload_n 659 (qf_8 (by decide) rfl) rfl rfl ?_
  refine qr_iload_n 660 (qf_8 (by decide) rfl) rfl rfl ?_
  refine qr_iconst 661 (qf_8 (by decide) rfl) rfl ?_
  refine qr_iadd 662 (qf_8 (by decide) rfl) rfl ?_
  refine qr_iaload 663 (qf_8 (by decide) rfl) rfl (by omega) (by omega) rfl ?_
  refine qy_v (xs ((i + 1) : Int).toNat) rfl ?_
  refine qr_aload_n 664 (qf_8 (by decide) rfl) rfl rfl ?_
  refine qr_iload_n 665 (qf_8 (by decide) rfl) rfl rfl ?_
  refine qr_iconst 666 (qf_8 (by decide) rfl) rfl ?_
  refine qr_iadd 667 (qf_8 (by decide) rfl) rfl ?_
  refine qr_iaload 668 (qf_8 (by decide) rfl) rfl (by omega) (by omega) rfl ?_
  refine qy_v (xs ((i + 2) : Int).toNat) rfl ?_
  refine qr_call 671 109 19340 (qf_8 (by decide) rfl) rfl (Nat.le_of_ble_eq_true rfl) (Nat.le_of_ble_eq_true rfl) rfl rfl (sf_199_86 (d := 97) hI (rx _) (rx _)) ?_
  rintro _ _ ⟨rfl, v2, rfl, hv2⟩
  show qr_W (qe L xs vb) 100 qx_e0 lw_Q0 (671, [(3, .int (qz i)), (2, .ref 86), (1, .ref 16), (0, .ref 0)], [.int (qz v2)], qw σ α κ ρ, 109, 19340)
  refine qr_pop 672 (qf_8 (by decide) rfl) rfl rfl ?_
  refine qr_goto 2036 (qf_8 (by decide) rfl) rfl ?_
  exact lw_end hL hi rx (hk _ _ _ _ ⟨hI, by omega, by omega, by omega, hZ, hR, hK, hT, hF, hP, hH, hD, hN, hB, hC, hS, hW⟩)
set_option maxHeartbeats 4000000 in
set_option maxRecDepth 20000 in
theorem lw_c11 {L : Nat} {xs : Nat → Int} {vb : Bool} {i : Int} {σ α : Nat → Nat → Int} {κ : Nat → Option Nat} {ρ : Nat} (hL : L ≤ 3072) (hi : 0 ≤ i ∧ i + 6 ≤ (L : Int)) (rx : ∀ k, -2147483648 ≤ xs k ∧ xs k ≤ 2147483647) (hJ : lw_J i σ α κ ρ) (hk : ∀ σ' α' κ' ρ', lw_J (i + 6) σ' α' κ' ρ' → qr_W (qe L xs vb) 100 qx_e0 lw_Q0 (18, [(3, .int (qz (i + 6))), (2, .ref 86), (1, .ref 16), (0, .ref 0)], [], qw σ' α' κ' ρ', 109, 19340)) : qr_W (qe L xs vb) 100 qx_e0 lw_Q0 (675, [(3, .int (qz i)), (2, .ref 86), (1, .ref 16), (0, .ref 0)], [], qw σ α κ ρ, 109, 19340) := by
  obtain ⟨hI, hj0, hj1, hj2, hZ, hR, hK, hT, hF, hP, hH, hD, hN, hB, hC, hS, hW⟩ := hJ
  refine qr_aload_n 676 (qf_8 (by decide) rfl) rfl rfl ?_
  refine qr_aload_n 677 (qf_8 (by decide) rfl) rfl rfl ?_
  refine qr_iload_n 678 (qf_8 (by decide) rfl) rfl rfl ?_
  refine qr_iconst 679 (qf_8 (by decide) rfl) rfl ?_
  refine qr_iadd 680 (qf_8 (by decide) rfl) rfl ?_
  refine qr_iaload 681 (qf_8 (by decide) rfl) rfl (by omega) (by omega) rfl ?_
  refine qy_v (xs ((i + 1) : Int).toNat) rfl ?_
  refine qr_aload_n 682 (qf_8 (by decide) rfl) rfl rfl ?_
  refine qr_iload_n 683 (qf_8 (by decide) rfl) rfl rfl ?_
  refine qr_iconst 684 (qf_8 (by decide) rfl) rfl ?_
  refine qr_iadd 685 (qf_8 (by decide) rfl) rfl ?_
  refine qr_iaload 686 (qf_8 (by decide) rfl) rfl (by omega) (by omega) rfl ?_
  refine qy_v (xs ((i + 2) : Int).toNat) rfl ?_
  refine qr_aload_n 687 (qf_8 (by decide) rfl) rfl rfl ?_
  refine qr_iload_n 688 (qf_8 (by decide) rfl) rfl rfl ?_
  refine qr_iconst 689 (qf_8 (by decide) rfl) rfl ?_
  refine qr_iadd 690 (qf_8 (by decide) rfl) rfl ?_
  refine qr_iaload 691 (qf_8 (by decide) rfl) rfl (by omega) (by omega) rfl ?_
  refine qy_v (xs ((i + 3) : Int).toNat) rfl ?_
  refine qr_call 694 109 19340 (qf_8 (by decide) rfl) rfl (Nat.le_of_ble_eq_true rfl) (Nat.le_of_ble_eq_true rfl) rfl rfl (sf_75_16x (d := 96) hI (rx _) (rx _) (rx _) hH.1) ?_
  rintro _ _ ⟨σ1, α1, rfl, hI1, hG1, v1, rfl, hv1, hx1_0⟩
  have k1_16_15 : σ1 16 15 = σ 16 15 := hG1.1 16 15 (by decide)
  have k1_58_12 : σ1 58 12 = σ 58 12 := hG1.1 58 12 (by decide)
  have k1_86_4 : σ1 86 4 = σ 86 4 := hG1.1 86 4 (by decide)
  have k1_86_5 : σ1 86 5 = σ 86 5 := hG1.1 86 5 (by decide)
  have k1_86_11 : σ1 86 11 = σ 86 11 := hG1.1 86 11 (by decide)
  have k1_86_32 : σ1 86 32 = σ 86 32 := hG1.1 86 32 (by decide)
  have hR_1 := qR_fr hG1 (by decide) (by decide) hR
  have hK_1 := qR2_fr hG1 (by decide) (by decide) hK
  have hT_1 := qTp_fr hG1 (by decide) hT
  have hF_1 := qRF_fr hG1 (by decide) (by decide) hF
  have hP_1 := qRP_fr hG1 (by decide) (by decide) hP
  have hD_1 := qRL_fr hG1 (by decide) (by decide) hD
  have hN_1 := qRN_fr hG1 (by decide) hN
  have hB_1 := qRT_fr hG1 (by decide) (by decide) hB
  have hC_1 := qRC_fr hG1 (by decide) (by decide) (by decide) (by decide) hC
  have hS_1 := qSt_fr hG1 (by decide) (by decide) hS
  have hW_1 := qRS_fr hG1 (by decide) (by decide) hW
  have hZ_1 := qPZ_fr hG1 (by decide) (by decide) hZ
  show qr_W (qe L xs vb) 100 qx_e0 lw_Q0 (694, [(3, .int (qz i)), (2, .ref 86), (1, .ref 16), (0, .ref 0)], [.int (qz v1)], qw σ1 α1 κ ρ, 109, 19340)
  refine qr_pop 695 (qf_8 (by decide) rfl) rfl rfl ?_
  refine qr_aload_n 696 (qf_8 (by decide) rfl) rfl rfl ?_
  refine qr_aload_n 697 (qf_8 (by decide) rfl) rfl rfl ?_
  refine qr_iload_n 698 (qf_8 (by decide) rfl) rfl rfl ?_
  refine qr_iconst 699 (qf_8 (by decide) rfl) rfl ?_
  refine qr_iadd 700 (qf_8 (by decide) rfl) rfl ?_
  refine qr_iaload 701 (qf_8 (by decide) rfl) rfl (by omega) (by omega) rfl ?_
  refine qy_v (xs ((i + 1) : Int).toNat) rfl ?_
  refine qr_aload_n 702 (qf_8 (by decide) rfl) rfl rfl ?_
  refine qr_iload_n 703 (qf_8 (by decide) rfl) rfl rfl ?_
  refine qr_iconst 704 (qf_8 (by decide) rfl) rfl ?_
  refine qr_iadd 705 (qf_8 (by decide) rfl) rfl ?_
  refine qr_iaload 706 (qf_8 (by decide) rfl) rfl (by omega) (by omega) rfl ?_
  refine qy_v (xs ((i + 2) : Int).toNat) rfl ?_
  refine qr_aload_n 707 (qf_8 (by decide) rfl) rfl rfl ?_
  refine qr_iload_n 708 (qf_8 (by decide) rfl) rfl rfl ?_
  refine qr_iconst 709 (qf_8 (by decide) rfl) rfl ?_
  refine qr_iadd 710 (qf_8 (by decide) rfl) rfl ?_
  refine qr_iaload 711 (qf_8 (by decide) rfl) rfl (by omega) (by omega) rfl ?_
  refine qy_v (xs ((i + 3) : Int).toNat) rfl ?_
  refine qr_call 714 109 19340 (qf_8 (by decide) rfl) rfl (Nat.le_of_ble_eq_true rfl) (Nat.le_of_ble_eq_true rfl) rfl rfl (sf_203_86x (d := 97) hI1 (rx _) (rx _) (rx _)) ?_
  rintro _ _ ⟨σ2, α2, rfl, hI2, hG2, v2, rfl, hv2, hx2_0⟩
  have k2_16_15 : σ2 16 15 = σ1 16 15 := hG2.1 16 15 (by decide)
  have k2_58_12 : σ2 58 12 = σ1 58 12 := hG2.1 58 12 (by decide)
  have k2_86_11 : σ2 86 11 = σ1 86 11 := hG2.1 86 11 (by decide)
  have k2_86_32 : σ2 86 32 = σ1 86 32 := hG2.1 86 32 (by decide)
  have hR_2 := qR_fr hG2 (by decide) (by decide) hR_1
  have hK_2 := qR2_fr hG2 (by decide) (by decide) hK_1
  have hT_2 := qTp_fr hG2 (by decide) hT_1
  have hF_2 := qRF_fr hG2 (by decide) (by decide) hF_1
  have hP_2 := qRP_fr hG2 (by decide) (by decide) hP_1
  have hD_2 := qRL_fr hG2 (by decide) (by decide) hD_1
  have hN_2 := qRN_fr hG2 (by decide) hN_1
  have hB_2 := qRT_fr hG2 (by decide) (by decide) hB_1
  have hC_2 := qRC_fr hG2 (by decide) (by decide) (by decide) (by decide) hC_1
  have hS_2 := qSt_fr hG2 (by decide) (by decide) hS_1
  have hZ_2 := qPZ_fr hG2 (by decide) (by decide) hZ_1
  obtain ⟨hv, hHb⟩ := ro_cover hI hR hH hG1 hG2 hx1_0 hx2_0
  have hWb := rs_cover hI1 (by have hq : 0 ≤ σ 86 5 ∧ σ 86 5 ≤ σ 86 4 ∧ σ 86 4 ≤ 40 := hH.1.2.2.1; omega) hG2 hx2_0 hW_1
  show qr_W (qe L xs vb) 100 qx_e0 lw_Q0 (714, [(3, .int (qz i)), (2, .ref 86), (1, .ref 16), (0, .ref 0)], [.int (qz v2)], qw σ2 α2 κ ρ, 109, 19340)
  refine qr_pop 715 (qf_8 (by decide) rfl) rfl rfl ?_
  refine qr_goto 2036 (qf_8 (by decide) rfl) rfl ?_
  exact lw_end hL hi rx (hk _ _ _ _ ⟨hI2, by omega, by omega, by omega, hZ_2, hR_2, hK_2, hT_2, hF_2, hP_2, hHb, hD_2, hN_2, hB_2, hC_2, hS_2, hWb⟩)
set_option maxHeartbeats 4000000 in
set_option maxRecDepth 20000 in
theorem lw_c12 {L : Nat} {xs : Nat → Int} {vb : Bool} {i : Int} {σ α : Nat → Nat → Int} {κ : Nat → Option Nat} {ρ : Nat} (hL : L ≤ 3072) (hi : 0 ≤ i ∧ i + 6 ≤ (L : Int)) (rx : ∀ k, -2147483648 ≤ xs k ∧ xs k ≤ 2147483647) (hJ : lw_J i σ α κ ρ) (hk : ∀ σ' α' κ' ρ', lw_J (i + 6) σ' α' κ' ρ' → qr_W (qe L xs vb) 100 qx_e0 lw_Q0 (18, [(3, .int (qz (i + 6))), (2, .ref 86), (1, .ref 16), (0, .ref 0)], [], qw σ' α' κ' ρ', 109, 19340)) : qr_W (qe L xs vb) 100 qx_e0 lw_Q0 (718, [(3, .int (qz i)), (2, .ref 86), (1, .ref 16), (0, .ref 0)], [], qw σ α κ ρ, 109, 19340) := by
  obtain ⟨hI, hj0, hj1, hj2, hZ, hR, hK, hT, hF, hP, hH, hD, hN, hB, hC, hS, hW⟩ := hJ
  refine qr_aload_n 719 (qf_9 (by decide) rfl) rfl rfl ?_
  refine qr_aload_n 720 (qf_9 (by decide) rfl) rfl rfl ?_
  refine qr_iload_n 721 (qf_9 (by decide) rfl) rfl rfl ?_
  refine qr_iconst 722 (qf_9 (by decide) rfl) rfl ?_
  refine qr_iadd 723 (qf_9 (by decide) rfl) rfl ?_
  refine qr_iaload 724 (qf_9 (by decide) rfl) rfl (by omega) (by omega) rfl ?_
  refine qy_v (xs ((i + 1) : Int).toNat) rfl ?_
  refine qr_aload_n 725 (qf_9 (by decide) rfl) rfl rfl ?_
  refine qr_iload_n 726 (qf_9 (by decide) rfl) rfl rfl ?_
  refine qr_iconst 727 (qf_9 (by decide) rfl) rfl ?_
  refine qr_iadd 728 (qf_9 (by decide) rfl) rfl ?_
  refine qr_iaload 729 (qf_9 (by decide) rfl) rfl (by omega) (by omega) rfl ?_
  refine qy_v (xs ((i + 2) : Int).toNat) rfl ?_
  refine qr_aload_n 730 (qf_9 (by decide) rfl) rfl rfl ?_
  refine qr_iload_n 731 (qf_9 (by decide) rfl) rfl rfl ?_
  refine qr_iconst 732 (qf_9 (by decide) rfl) rfl ?_
  refine qr_iadd 733 (qf_9 (by decide) rfl) rfl ?_
  refine qr_iaload 734 (qf_9 (by decide) rfl) rfl (by omega) (by omega) rfl ?_
  refine qy_v (xs ((i + 3) : Int).toNat) rfl ?_
  refine qr_call 737 109 19340 (qf_9 (by decide) rfl) rfl (Nat.le_of_ble_eq_true rfl) (Nat.le_of_ble_eq_true rfl) rfl rfl (sf_76_16 (d := 97) hI (rx _) (rx _) (rx _)) ?_
  rintro _ _ ⟨rfl, v1, rfl, hv1⟩
  show qr_W (qe L xs vb) 100 qx_e0 lw_Q0 (737, [(3, .int (qz i)), (2, .ref 86), (1, .ref 16), (0, .ref 0)], [.int (qz v1)], qw σ α κ ρ, 109, 19340)
  refine qr_pop 738 (qf_9 (by decide) rfl) rfl rfl ?_
  refine qr_aload_n 739 (qf_9 (by decide) rfl) rfl rfl ?_
  refine qr_aload_n 740 (qf_9 (by decide) rfl) rfl rfl ?_
  refine qr_iload_n 741 (qf_9 (by decide) rfl) rfl rfl ?_
  refine qr_iconst 742 (qf_9 (by decide) rfl) rfl ?_
  refine qr_iadd 743 (qf_9 (by decide) rfl) rfl ?_
  refine qr_iaload 744 (qf_9 (by decide) rfl) rfl (by omega) (by omega) rfl ?_
  refine qy_v (xs ((i + 1) : Int).toNat) rfl ?_
  refine qr_aload_n 745 (qf_9 (by decide) rfl) rfl rfl ?_
  refine qr_iload_n 746 (qf_9 (by decide) rfl) rfl rfl ?_
  refine qr_iconst 747 (qf_9 (by decide) rfl) rfl ?_
  refine qr_iadd 748 (qf_9 (by decide) rfl) rfl ?_
  refine qr_iaload 749 (qf_9 (by decide) rfl) rfl (by omega) (by omega) rfl ?_
  refine qy_v (xs ((i + 2) : Int).toNat) rfl ?_
  refine qr_aload_n 750 (qf_9 (by decide) rfl) rfl rfl ?_
  refine qr_iload_n 751 (qf_9 (by decide) rfl) rfl rfl ?_
  refine qr_iconst 752 (qf_9 (by decide) rfl) rfl ?_
  refine qr_iadd 753 (qf_9 (by decide) rfl) rfl ?_
  refine qr_iaload 754 (qf_9 (by decide) rfl) rfl (by omega) (by omega) rfl ?_
  refine qy_v (xs ((i + 3) : Int).toNat) rfl ?_
  refine qr_call 757 109 19340 (qf_9 (by decide) rfl) rfl (Nat.le_of_ble_eq_true rfl) (Nat.le_of_ble_eq_true rfl) rfl rfl (sf_204_86 (d := 96) hI (rx _) (rx _) (rx _)) ?_
  rintro _ _ ⟨rfl, v2, rfl, hv2⟩
  show qr_W (qe L xs vb) 100 qx_e0 lw_Q0 (757, [(3, .int (qz i)), (2, .ref 86), (1, .ref 16), (0, .ref 0)], [.int (qz v2)], qw σ α κ ρ, 109, 19340)
  refine qr_pop 758 (qf_9 (by decide) rfl) rfl rfl ?_
  refine qr_goto 2036 (qf_9 (by decide) rfl) rfl ?_
  exact lw_end hL hi rx (hk _ _ _ _ ⟨hI, by omega, by omega, by omega, hZ, hR, hK, hT, hF, hP, hH, hD, hN, hB, hC, hS, hW⟩)
set_option maxHeartbeats 4000000 in
set_option maxRecDepth 20000 in
theorem lw_c13 {L : Nat} {xs : Nat → Int} {vb : Bool} {i : Int} {σ α : Nat → Nat → Int} {κ : Nat → Option Nat} {ρ : Nat} (hL : L ≤ 3072) (hi : 0 ≤ i ∧ i + 6 ≤ (L : Int)) (rx : ∀ k, -2147483648 ≤ xs k ∧ xs k ≤ 2147483647) (hJ : lw_J i σ α κ ρ) (hk : ∀ σ' α' κ' ρ', lw_J (i + 6) σ' α' κ' ρ' → qr_W (qe L xs vb) 100 qx_e0 lw_Q0 (18, [(3, .int (qz (i + 6))), (2, .ref 86), (1, .ref 16), (0, .ref 0)], [], qw σ' α' κ' ρ', 109, 19340)) : qr_W (qe L xs vb) 100 qx_e0 lw_Q0 (761, [(3, .int (qz i)), (2, .ref 86), (1, .ref 16), (0, .ref 0)], [], qw σ α κ ρ, 109, 19340) := by
  obtain ⟨hI, hj0, hj1, hj2, hZ, hR, hK, hT, hF, hP, hH, hD, hN, hB, hC, hS, hW⟩ := hJ
  refine qr_aload_n 762 (qf_9 (by decide) rfl) rfl rfl ?_
  refine qr_aload_n 763 (qf_9 (by decide) rfl) rfl rfl ?_
  refine qr_iload_n 764 (qf_9 (by decide) rfl) rfl rfl ?_
  refine qr_iconst 765 (qf_9 (by decide) rfl) rfl ?_
  refine qr_iadd 766 (qf_9 (by decide) rfl) rfl ?_
  refine qr_iaload 767 (qf_9 (by decide) rfl) rfl (by omega) (by omega) rfl ?_
  refine qy_v (xs ((i + 1) : Int).toNat) rfl ?_
  refine qr_aload_n 768 (qf_9 (by decide) rfl) rfl rfl ?_
  refine qr_iload_n 769 (qf_9 (by decide) rfl) rfl rfl ?_
  refine qr_iconst 770 (qf_9 (by decide) rfl) rfl ?_
  refine qr_iadd 771 (qf_9 (by decide) rfl) rfl ?_
  refine qr_iaload 772 (qf_9 (by decide) rfl) rfl (by omega) (by omega) rfl ?_
  refine qy_v (xs ((i + 2) : Int).toNat) rfl ?_
  refine qr_call 775 109 19340 (qf_9 (by decide) rfl) rfl (Nat.le_of_ble_eq_true rfl) (Nat.le_of_ble_eq_true rfl) rfl rfl (sf_79_16 (d := 97) hI (rx _) (rx _)) ?_
  rintro _ _ ⟨rfl, v1, rfl, hv1⟩
  show qr_W (qe L xs vb) 100 qx_e0 lw_Q0 (775, [(3, .int (qz i)), (2, .ref 86), (1, .ref 16), (0, .ref 0)], [.int (qz v1)], qw σ α κ ρ, 109, 19340)
  refine qr_pop 776 (qf_9 (by decide) rfl) rfl rfl ?_
  refine qr_aload_n 777 (qf_10 (by decide) rfl) rfl rfl ?_
  refine qr_aload_n 778 (qf_10 (by decide) rfl) rfl rfl ?_
  refine qr_iload_n 779 (qf_10 (by decide) rfl) rfl rfl ?_
  refine qr_iconst 780 (qf_10 (by decide) rfl) rfl ?_
  refine qr_iadd 781 (qf_10 (by decide) rfl) rfl ?_
  refine qr_iaload 782 (qf_10 (by decide) rfl) rfl (by omega) (by omega) rfl ?_
  refine qy_v (xs ((i + 1) : Int).toNat) rfl ?_
  refine qr_aload_n 783 (qf_10 (by decide) rfl) rfl rfl ?_
  refine qr_iload_n 784 (qf_10 (by decide) rfl) rfl rfl ?_
  refine qr_iconst 785 (qf_10 (by decide) rfl) rfl ?_
  refine qr_iadd 786 (qf_10 (by decide) rfl) rfl ?_
  refine qr_iaload 787 (qf_10 (by decide) rfl) rfl (by omega) (by omega) rfl ?_
  refine qy_v (xs ((i + 2) : Int).toNat) rfl ?_
  refine qr_call 790 109 19340 (qf_10 (by decide) rfl) rfl (Nat.le_of_ble_eq_true rfl) (Nat.le_of_ble_eq_true rfl) rfl rfl (sf_208_86 (d := 95) hI (rx _) (rx _)) ?_
  rintro _ _ ⟨σ2, rfl, hI2, hG2, v2, rfl, hv2⟩
  have k2_16_15 : σ2 16 15 = σ 16 15 := hG2.1 16 15 (by decide)
  have k2_58_12 : σ2 58 12 = σ 58 12 := hG2.1 58 12 (by decide)
  have k2_86_4 : σ2 86 4 = σ 86 4 := hG2.1 86 4 (by decide)
  have k2_86_5 : σ2 86 5 = σ 86 5 := hG2.1 86 5 (by decide)
  have k2_86_11 : σ2 86 11 = σ 86 11 := hG2.1 86 11 (by decide)
  have k2_86_32 : σ2 86 32 = σ 86 32 := hG2.1 86 32 (by decide)
  have hR_2 := qR_fr hG2 (by decide) (by decide) hR
  have hK_2 := qR2_fr hG2 (by decide) (by decide) hK
  have hT_2 := qTp_fr hG2 (by decide) hT
  have hF_2 := qRF_fr hG2 (by decide) (by decide) hF
  have hP_2 := qRP_fr hG2 (by decide) (by decide) hP
  have hH_2 := qRH_fr hG2 (by decide) (by decide) hH
  have hD_2 := qRL_fr hG2 (by decide) (by decide) hD
  have hN_2 := qRN_fr hG2 (by decide) hN
  have hB_2 := qRT_fr hG2 (by decide) (by decide) hB
  have hC_2 := qRC_fr hG2 (by decide) (by decide) (by decide) (by decide) hC
  have hS_2 := qSt_fr hG2 (by decide) (by decide) hS
  have hW_2 := qRS_fr hG2 (by decide) (by decide) hW
  have hZ_2 := qPZ_fr hG2 (by decide) (by decide) hZ
  show qr_W (qe L xs vb) 100 qx_e0 lw_Q0 (790, [(3, .int (qz i)), (2, .ref 86), (1, .ref 16), (0, .ref 0)], [.int (qz v2)], qw σ2 α κ ρ, 109, 19340)
  refine qr_pop 791 (qf_10 (by decide) rfl) rfl rfl ?_
  refine qr_goto 2036 (qf_10 (by decide) rfl) rfl ?_
  exact lw_end hL hi rx (hk _ _ _ _ ⟨hI2, by omega, by omega, by omega, hZ_2, hR_2, hK_2, hT_2, hF_2, hP_2, hH_2, hD_2, hN_2, hB_2, hC_2, hS_2, hW_2⟩)
set_option maxHeartbeats 4000000 in
set_option maxRecDepth 20000 in
theorem lw_c14 {L : Nat} {xs : Nat → Int} {vb : Bool} {i : Int} {σ α : Nat → Nat → Int} {κ : Nat → Option Nat} {ρ : Nat} (hL : L ≤ 3072) (hi : 0 ≤ i ∧ i + 6 ≤ (L : Int)) (rx : ∀ k, -2147483648 ≤ xs k ∧ xs k ≤ 2147483647) (hJ : lw_J i σ α κ ρ) (hk : ∀ σ' α' κ' ρ', lw_J (i + 6) σ' α' κ' ρ' → qr_W (qe L xs vb) 100 qx_e0 lw_Q0 (18, [(3, .int (qz (i + 6))), (2, .ref 86), (1, .ref 16), (0, .ref 0)], [], qw σ' α' κ' ρ', 109, 19340)) : qr_W (qe L xs vb) 100 qx_e0 lw_Q0 (794, [(3, .int (qz i)), (2, .ref 86), (1, .ref 16), (0, .ref 0)], [], qw σ α κ ρ, 109, 19340) := by
  obtain ⟨hI, hj0, hj1, hj2, hZ, hR, hK, hT, hF, hP, hH, hD, hN, hB, hC, hS, hW⟩ := hJ
  refine qr_aload_n 795 (qf_10 (by decide) rfl) rfl rfl ?_
  refine qr_aload_n 796 (qf_10 (by decide) rfl) rfl rfl ?_
  refine qr_iload_n 797 (qf_10 (by decide) rfl) rfl rfl ?_
  refine qr_iconst 798 (qf_10 (by decide) rfl) rfl ?_
  refine qr_iadd 799 (qf_10 (by decide) rfl) rfl ?_
  refine qr_iaload 800 (qf_10 (by decide) rfl) rfl (by omega) (by omega) rfl ?_
  refine qy_v (xs ((i + 1) : Int).toNat) rfl ?_
  refine qr_aload_n 801 (qf_10 (by decide) rfl) rfl rfl ?_
  refine qr_iload_n 802 (qf_10 (by decide) rfl) rfl rfl ?_
  refine qr_iconst 803 (qf_10 (by decide) rfl) rfl ?_
  refine qr_iadd 804 (qf_10 (by decide) rfl) rfl ?_
  refine qr_iaload 805 (qf_10 (by decide) rfl) rfl (by omega) (by omega) rfl ?_
  refine qy_v (xs ((i + 2) : Int).toNat) rfl ?_
  refine qr_call 808 109 19340 (qf_10 (by decide) rfl) rfl (Nat.le_of_ble_eq_true rfl) (Nat.le_of_ble_eq_true rfl) rfl rfl (sf_81_16 (d := 97) hI (rx _) (rx _)) ?_
  rintro _ _ ⟨rfl, v1, rfl, hv1⟩
  show qr_W (qe L xs vb) 100 qx_e0 lw_Q0 (808, [(3, .int (qz i)), (2, .ref 86), (1, .ref 16), (0, .ref 0)], [.int (qz v1)], qw σ α κ ρ, 109, 19340)
  refine qr_pop 809 (qf_10 (by decide) rfl) rfl rfl ?_
  refine qr_aload_n 810 (qf_10 (by decide) rfl) rfl rfl ?_
  refine qr_aload_n 811 (qf_10 (by decide) rfl) rfl rfl ?_
  refine qr_iload_n 812 (qf_10 (by decide) rfl) rfl rfl ?_
  refine qr_iconst 813 (qf_10 (by decide) rfl) rfl ?_
  refine qr_iadd 814 (qf_10 (by decide) rfl) rfl ?_
  refine qr_iaload 815 (qf_10 (by decide) rfl) rfl (by omega) (by omega) rfl ?_
  refine qy_v (xs ((i + 1) : Int).toNat) rfl ?_
  refine qr_aload_n 816 (qf_10 (by decide) rfl) rfl rfl ?_
  refine qr_iload_n 817 (qf_10 (by decide) rfl) rfl rfl ?_
  refine qr_iconst 818 (qf_10 (by decide) rfl) rfl ?_
  refine qr_iadd 819 (qf_10 (by decide) rfl) rfl ?_
  refine qr_iaload 820 (qf_10 (by decide) rfl) rfl (by omega) (by omega) rfl ?_
  refine qy_v (xs ((i + 2) : Int).toNat) rfl ?_
  refine qr_call 823 109 19340 (qf_10 (by decide) rfl) rfl (Nat.le_of_ble_eq_true rfl) (Nat.le_of_ble_eq_true rfl) rfl rfl (sf_210_86 (d := 95) hI (rx _) (rx _)) ?_
  rintro _ _ ⟨σ2, rfl, hI2, hG2, v2, rfl, hv2⟩
  have k2_16_15 : σ2 16 15 = σ 16 15 := hG2.1 16 15 (by decide)
  have k2_58_12 : σ2 58 12 = σ 58 12 := hG2.1 58 12 (by decide)
  have k2_86_4 : σ2 86 4 = σ 86 4 := hG2.1 86 4 (by decide)
  have k2_86_5 : σ2 86 5 = σ 86 5 := hG2.1 86 5 (by decide)
  have k2_86_11 : σ2 86 11 = σ 86 11 := hG2.1 86 11 (by decide)
  have k2_86_32 : σ2 86 32 = σ 86 32 := hG2.1 86 32 (by decide)
  have hR_2 := qR_fr hG2 (by decide) (by decide) hR
  have hK_2 := qR2_fr hG2 (by decide) (by decide) hK
  have hT_2 := qTp_fr hG2 (by decide) hT
  have hF_2 := qRF_fr hG2 (by decide) (by decide) hF
  have hP_2 := qRP_fr hG2 (by decide) (by decide) hP
  have hH_2 := qRH_fr hG2 (by decide) (by decide) hH
  have hD_2 := qRL_fr hG2 (by decide) (by decide) hD
  have hN_2 := qRN_fr hG2 (by decide) hN
  have hB_2 := qRT_fr hG2 (by decide) (by decide) hB
  have hC_2 := qRC_fr hG2 (by decide) (by decide) (by decide) (by decide) hC
  have hS_2 := qSt_fr hG2 (by decide) (by decide) hS
  have hW_2 := qRS_fr hG2 (by decide) (by decide) hW
  have hZ_2 := qPZ_fr hG2 (by decide) (by decide) hZ
  show qr_W (qe L xs vb) 100 qx_e0 lw_Q0 (823, [(3, .int (qz i)), (2, .ref 86), (1, .ref 16), (0, .ref 0)], [.int (qz v2)], qw σ2 α κ ρ, 109, 19340)
  refine qr_pop 824 (qf_10 (by decide) rfl) rfl rfl ?_
  refine qr_goto 2036 (qf_10 (by decide) rfl) rfl ?_
  exact lw_end hL hi rx (hk _ _ _ _ ⟨hI2, by omega, by omega, by omega, hZ_2, hR_2, hK_2, hT_2, hF_2, hP_2, hH_2, hD_2, hN_2, hB_2, hC_2, hS_2, hW_2⟩)
set_option maxHeartbeats 4000000 in
set_option maxRecDepth 20000 in
theorem lw_c15 {L : Nat} {xs : Nat → Int} {vb : Bool} {i : Int} {σ α : Nat → Nat → Int} {κ : Nat → Option Nat} {ρ : Nat} (hL : L ≤ 3072) (hi : 0 ≤ i ∧ i + 6 ≤ (L : Int)) (rx : ∀ k, -2147483648 ≤ xs k ∧ xs k ≤ 2147483647) (hJ : lw_J i σ α κ ρ) (hk : ∀ σ' α' κ' ρ', lw_J (i + 6) σ' α' κ' ρ' → qr_W (qe L xs vb) 100 qx_e0 lw_Q0 (18, [(3, .int (qz (i + 6))), (2, .ref 86), (1, .ref 16), (0, .ref 0)], [], qw σ' α' κ' ρ', 109, 19340)) : qr_W (qe L xs vb) 100 qx_e0 lw_Q0 (827, [(3, .int (qz i)), (2, .ref 86), (1, .ref 16), (0, .ref 0)], [], qw σ α κ ρ, 109, 19340) := by
  obtain ⟨hI, hj0, hj1, hj2, hZ, hR, hK, hT, hF, hP, hH, hD, hN, hB, hC, hS, hW⟩ := hJ
  refine qr_aload_n 828 (qf_10 (by decide) rfl) rfl rfl ?_
  refine qr_aload_n 829 (qf_10 (by decide) rfl) rfl rfl ?_
  refine qr_iload_n 830 (qf_10 (by decide) rfl) rfl rfl ?_
  refine qr_iconst 831 (qf_10 (by decide) rfl) rfl ?_
  refine qr_iadd 832 (qf_10 (by decide) rfl) rfl ?_
  refine qr_iaload 833 (qf_10 (by decide) rfl) rfl (by omega) (by omega) rfl ?_
  refine qy_v (xs ((i + 1) : Int).toNat) rfl ?_
  refine qr_aload_n 834 (qf_10 (by decide) rfl) rfl rfl ?_
  refine qr_iload_n 835 (qf_10 (by decide) rfl) rfl rfl ?_
  refine qr_iconst 836 (qf_10 (by decide) rfl) rfl ?_
  refine qr_iadd 837 (qf_11 (by decide) rfl) rfl ?_
  refine qr_iaload 838 (qf_11 (by decide) rfl) rfl (by omega) (by omega) rfl ?_
  refine qy_v (xs ((i + 2) : Int).toNat) rfl ?_
  refine qr_call 841 109 19340 (qf_11 (by decide) rfl) rfl (Nat.le_of_ble_eq_true rfl) (Nat.le_of_ble_eq_true rfl) rfl rfl (sf_84_16x (d := 99) hI (rx _) (rx _)) ?_
  rintro _ _ ⟨σ1, α1, rfl, hI1, hG1, v1, rfl, hv1, hp1⟩
  have k1_58_12 : σ1 58 12 = σ 58 12 := hG1.1 58 12 (by decide)
  have k1_86_4 : σ1 86 4 = σ 86 4 := hG1.1 86 4 (by decide)
  have k1_86_5 : σ1 86 5 = σ 86 5 := hG1.1 86 5 (by decide)
  have k1_86_11 : σ1 86 11 = σ 86 11 := hG1.1 86 11 (by decide)
  have k1_86_32 : σ1 86 32 = σ 86 32 := hG1.1 86 32 (by decide)
  have hR_1 := qR_fr hG1 (by decide) (by decide) hR
  have hK_1 := qR2_fr hG1 (by decide) (by decide) hK
  have hF_1 := qRF_fr hG1 (by decide) (by decide) hF
  have hP_1 := qRP_fr hG1 (by decide) (by decide) hP
  have hH_1 := qRH_fr hG1 (by decide) (by decide) hH
  have hD_1 := qRL_fr hG1 (by decide) (by decide) hD
  have hN_1 := qRN_fr hG1 (by decide) hN
  have hB_1 := qRT_fr hG1 (by decide) (by decide) hB
  have hC_1 := qRC_fr hG1 (by decide) (by decide) (by decide) (by decide) hC
  have hS_1 := qSt_fr hG1 (by decide) (by decide) hS
  have hW_1 := qRS_fr hG1 (by decide) (by decide) hW
  have hZ_1 := qPZ_fr hG1 (by decide) (by decide) hZ
  show qr_W (qe L xs vb) 100 qx_e0 lw_Q0 (841, [(3, .int (qz i)), (2, .ref 86), (1, .ref 16), (0, .ref 0)], [.int (qz v1)], qw σ1 α1 κ ρ, 109, 19340)
  refine qr_pop 842 (qf_11 (by decide) rfl) rfl rfl ?_
  refine qr_aload_n 843 (qf_11 (by decide) rfl) rfl rfl ?_
  refine qr_aload_n 844 (qf_11 (by decide) rfl) rfl rfl ?_
  refine qr_iload_n 845 (qf_11 (by decide) rfl) rfl rfl ?_
  refine qr_iconst 846 (qf_11 (by decide) rfl) rfl ?_
  refine qr_iadd 847 (qf_11 (by decide) rfl) rfl ?_
  refine qr_iaload 848 (qf_11 (by decide) rfl) rfl (by omega) (by omega) rfl ?_
  refine qy_v (xs ((i + 1) : Int).toNat) rfl ?_
  refine qr_aload_n 849 (qf_11 (by decide) rfl) rfl rfl ?_
  refine qr_iload_n 850 (qf_11 (by decide) rfl) rfl rfl ?_
  refine qr_iconst 851 (qf_11 (by decide) rfl) rfl ?_
  refine qr_iadd 852 (qf_11 (by decide) rfl) rfl ?_
  refine qr_iaload 853 (qf_11 (by decide) rfl) rfl (by omega) (by omega) rfl ?_
  refine qy_v (xs ((i + 2) : Int).toNat) rfl ?_
  refine qr_call 856 109 19340 (qf_11 (by decide) rfl) rfl (Nat.le_of_ble_eq_true rfl) (Nat.le_of_ble_eq_true rfl) rfl rfl (sf_211_86x (d := 98) hI1 (rx _) (rx _)) ?_
  rintro _ _ ⟨σ2, α2, rfl, hI2, hG2, v2, rfl, hv2, hp2⟩
  have k2_16_15 : σ2 16 15 = σ1 16 15 := hG2.1 16 15 (by decide)
  have k2_58_12 : σ2 58 12 = σ1 58 12 := hG2.1 58 12 (by decide)
  have k2_86_4 : σ2 86 4 = σ1 86 4 := hG2.1 86 4 (by decide)
  have k2_86_5 : σ2 86 5 = σ1 86 5 := hG2.1 86 5 (by decide)
  have k2_86_11 : σ2 86 11 = σ1 86 11 := hG2.1 86 11 (by decide)
  have hR_2 := qR_fr hG2 (by decide) (by decide) hR_1
  have hK_2 := qR2_fr hG2 (by decide) (by decide) hK_1
  have hF_2 := qRF_fr hG2 (by decide) (by decide) hF_1
  have hP_2 := qRP_fr hG2 (by decide) (by decide) hP_1
  have hH_2 := qRH_fr hG2 (by decide) (by decide) hH_1
  have hD_2 := qRL_fr hG2 (by decide) (by decide) hD_1
  have hN_2 := qRN_fr hG2 (by decide) hN_1
  have hB_2 := qRT_fr hG2 (by decide) (by decide) hB_1
  have hC_2 := qRC_fr hG2 (by decide) (by decide) (by decide) (by decide) hC_1
  have hS_2 := qSt_fr hG2 (by decide) (by decide) hS_1
  have hW_2 := qRS_fr hG2 (by decide) (by decide) hW_1
  have hZ_2 := qPZ_fr hG2 (by decide) (by decide) hZ_1
  obtain ⟨hv, hj1b, hTb⟩ := rl_feed hj1 hT hG1 hG2 hp1 hp2
  show qr_W (qe L xs vb) 100 qx_e0 lw_Q0 (856, [(3, .int (qz i)), (2, .ref 86), (1, .ref 16), (0, .ref 0)], [.int (qz v2)], qw σ2 α2 κ ρ, 109, 19340)
  refine qr_pop 857 (qf_11 (by decide) rfl) rfl rfl ?_
  refine qr_goto 2036 (qf_11 (by decide) rfl) rfl ?_
  exact lw_end hL hi rx (hk _ _ _ _ ⟨hI2, by omega, by omega, by omega, hZ_2, hR_2, hK_2, hTb, hF_2, hP_2, hH_2, hD_2, hN_2, hB_2, hC_2, hS_2, hW_2⟩)
set_option maxHeartbeats 4000000 in
set_option maxRecDepth 20000 in
theorem lw_c16 {L : Nat} {xs : Nat → Int} {vb : Bool} {i : Int} {σ α : Nat → Nat → Int} {κ : Nat → Option Nat} {ρ : Nat} (hL : L ≤ 3072) (hi : 0 ≤ i ∧ i + 6 ≤ (L : Int)) (rx : ∀ k, -2147483648 ≤ xs k ∧ xs k ≤ 2147483647) (hJ : lw_J i σ α κ ρ) (hk : ∀ σ' α' κ' ρ', lw_J (i + 6) σ' α' κ' ρ' → qr_W (qe L xs vb) 100 qx_e0 lw_Q0 (18, [(3, .int (qz (i + 6))), (2, .ref 86), (1, .ref 16), (0, .ref 0)], [], qw σ' α' κ' ρ', 109, 19340)) : qr_W (qe L xs vb) 100 qx_e0 lw_Q0 (860, [(3, .int (qz i)), (2, .ref 86), (1, .ref 16), (0, .ref 0)], [], qw σ α κ ρ, 109, 19340) := by
  obtain ⟨hI, hj0, hj1, hj2, hZ, hR, hK, hT, hF, hP, hH, hD, hN, hB, hC, hS, hW⟩ := hJ
  refine qr_aload_n 861 (qf_11 (by decide) rfl) rfl rfl ?_
  refine qr_aload_n 862 (qf_11 (by decide) rfl) rfl rfl ?_
  refine qr_iload_n 863 (qf_11 (by decide) rfl) rfl rfl ?_
  refine qr_iconst 864 (qf_11 (by decide) rfl) rfl ?_
  refine qr_iadd 865 (qf_11 (by decide) rfl) rfl ?_
  refine qr_iaload 866 (qf_11 (by decide) rfl) rfl (by omega) (by omega) rfl ?_
  refine qy_v (xs ((i + 1) : Int).toNat) rfl ?_
  refine qr_call 869 109 19340 (qf_11 (by decide) rfl) rfl (Nat.le_of_ble_eq_true rfl) (Nat.le_of_ble_eq_true rfl) rfl rfl (sf_85_16w (d := 42) hI (rx _) (fun j _ => hT.2 j)) ?_
  rintro _ _ ⟨σ1, α1, κ1, ρ1, rfl, hI1, hG1, v1, rfl, hv1, hp1, hcw1⟩
  have k1_58_12 : σ1 58 12 = σ 58 12 := hG1.1 58 12 (by decide)
  have k1_86_4 : σ1 86 4 = σ 86 4 := hG1.1 86 4 (by decide)
  have k1_86_5 : σ1 86 5 = σ 86 5 := hG1.1 86 5 (by decide)
  have k1_86_11 : σ1 86 11 = σ 86 11 := hG1.1 86 11 (by decide)
  have k1_86_32 : σ1 86 32 = σ 86 32 := hG1.1 86 32 (by decide)
  have hR_1 := qR_fr hG1 (by decide) (by decide) hR
  have hK_1 := qR2_fr hG1 (by decide) (by decide) hK
  have hT_1 := qTp_fr hG1 (by decide) hT
  have hF_1 := qRF_fr hG1 (by decide) (by decide) hF
  have hP_1 := qRP_fr hG1 (by decide) (by decide) hP
  have hH_1 := qRH_fr hG1 (by decide) (by decide) hH
  have hD_1 := qRL_fr hG1 (by decide) (by decide) hD
  have hN_1 := qRN_fr hG1 (by decide) hN
  have hB_1 := qRT_fr hG1 (by decide) (by decide) hB
  have hS_1 := qSt_fr hG1 (by decide) (by decide) hS
  have hW_1 := qRS_fr hG1 (by decide) (by decide) hW
  have hZ_1 := qPZ_fr hG1 (by decide) (by decide) hZ
  show qr_W (qe L xs vb) 100 qx_e0 lw_Q0 (869, [(3, .int (qz i)), (2, .ref 86), (1, .ref 16), (0, .ref 0)], [.int (qz v1)], qw σ1 α1 κ1 ρ1, 109, 19340)
  refine qr_pop 870 (qf_11 (by decide) rfl) rfl rfl ?_
  refine qr_aload_n 871 (qf_11 (by decide) rfl) rfl rfl ?_
  refine qr_aload_n 872 (qf_11 (by decide) rfl) rfl rfl ?_
  refine qr_iload_n 873 (qf_11 (by decide) rfl) rfl rfl ?_
  refine qr_iconst 874 (qf_11 (by decide) rfl) rfl ?_
  refine qr_iadd 875 (qf_11 (by decide) rfl) rfl ?_
  refine qr_iaload 876 (qf_11 (by decide) rfl) rfl (by omega) (by omega) rfl ?_
  refine qy_v (xs ((i + 1) : Int).toNat) rfl ?_
  refine qr_call 879 109 19340 (qf_11 (by decide) rfl) rfl (Nat.le_of_ble_eq_true rfl) (Nat.le_of_ble_eq_true rfl) rfl rfl (sf_212_86w (d := 54) hI1 (rx _)) ?_
  rintro _ _ ⟨σ2, α2, rfl, hI2, hG2, v2, rfl, hv2, hx2_0⟩
  have k2_16_15 : σ2 16 15 = σ1 16 15 := hG2.1 16 15 (by decide)
  have k2_58_12 : σ2 58 12 = σ1 58 12 := hG2.1 58 12 (by decide)
  have k2_86_4 : σ2 86 4 = σ1 86 4 := hG2.1 86 4 (by decide)
  have k2_86_5 : σ2 86 5 = σ1 86 5 := hG2.1 86 5 (by decide)
  have k2_86_11 : σ2 86 11 = σ1 86 11 := hG2.1 86 11 (by decide)
  have hR_2 := qR_fr hG2 (by decide) (by decide) hR_1
  have hK_2 := qR2_fr hG2 (by decide) (by decide) hK_1
  have hT_2 := qTp_fr hG2 (by decide) hT_1
  have hF_2 := qRF_fr hG2 (by decide) (by decide) hF_1
  have hP_2 := qRP_fr hG2 (by decide) (by decide) hP_1
  have hH_2 := qRH_fr hG2 (by decide) (by decide) hH_1
  have hD_2 := qRL_fr hG2 (by decide) (by decide) hD_1
  have hN_2 := qRN_fr hG2 (by decide) hN_1
  have hB_2 := qRT_fr hG2 (by decide) (by decide) hB_1
  have hS_2 := qSt_fr hG2 (by decide) (by decide) hS_1
  have hW_2 := qRS_fr hG2 (by decide) (by decide) hW_1
  have hZ_2 := qPZ_fr hG2 (by decide) (by decide) hZ_1
  obtain ⟨hv, hj1b, hCb⟩ := ro_custom hI hI1 hj1 hT hC hG1 hG2 hp1 hcw1 hx2_0
  show qr_W (qe L xs vb) 100 qx_e0 lw_Q0 (879, [(3, .int (qz i)), (2, .ref 86), (1, .ref 16), (0, .ref 0)], [.int (qz v2)], qw σ2 α2 κ1 ρ1, 109, 19340)
  refine qr_pop 880 (qf_11 (by decide) rfl) rfl rfl ?_
  refine qr_goto 2036 (qf_11 (by decide) rfl) rfl ?_
  exact lw_end hL hi rx (hk _ _ _ _ ⟨hI2, by omega, by omega, by omega, hZ_2, hR_2, hK_2, hT_2, hF_2, hP_2, hH_2, hD_2, hN_2, hB_2, hCb, hS_2, hW_2⟩)
set_option maxHeartbeats 4000000 in
set_option maxRecDepth 20000 in
theorem lw_c17 {L : Nat} {xs : Nat → Int} {vb : Bool} {i : Int} {σ α : Nat → Nat → Int} {κ : Nat → Option Nat} {ρ : Nat} (hL : L ≤ 3072) (hi : 0 ≤ i ∧ i + 6 ≤ (L : Int)) (rx : ∀ k, -2147483648 ≤ xs k ∧ xs k ≤ 2147483647) (hJ : lw_J i σ α κ ρ) (hk : ∀ σ' α' κ' ρ', lw_J (i + 6) σ' α' κ' ρ' → qr_W (qe L xs vb) 100 qx_e0 lw_Q0 (18, [(3, .int (qz (i + 6))), (2, .ref 86), (1, .ref 16), (0, .ref 0)], [], qw σ' α' κ' ρ', 109, 19340)) : qr_W (qe L xs vb) 100 qx_e0 lw_Q0 (883, [(3, .int (qz i)), (2, .ref 86), (1, .ref 16), (0, .ref 0)], [], qw σ α κ ρ, 109, 19340) := by
  obtain ⟨hI, hj0, hj1, hj2, hZ, hR, hK, hT, hF, hP, hH, hD, hN, hB, hC, hS, hW⟩ := hJ
  refine qr_aload_n 884 (qf_11 (by decide) rfl) rfl rfl ?_
  refine qr_aload_n 885 (qf_11 (by decide) rfl) rfl rfl ?_
  refine qr_iload_n 886 (qf_11 (by decide) rfl) rfl rfl ?_
  refine qr_iconst 887 (qf_11 (by decide) rfl) rfl ?_
  refine qr_iadd 888 (qf_11 (by decide) rfl) rfl ?_
  refine qr_iaload 889 (qf_11 (by decide) rfl) rfl (by omega) (by omega) rfl ?_
  refine qy_v (xs ((i + 1) : Int).toNat) rfl ?_
  refine qr_aload_n 890 (qf_11 (by decide) rfl) rfl rfl ?_
  refine qr_iload_n 891 (qf_11 (by decide) rfl) rfl rfl ?_
  refine qr_iconst 892 (qf_11 (by decide) rfl) rfl ?_
  refine qr_iadd 893 (qf_11 (by decide) rfl) rfl ?_
  refine qr_iaload 894 (qf_11 (by decide) rfl) rfl (by omega) (by omega) rfl ?_
  refine qy_v (xs ((i + 2) : Int).toNat) rfl ?_
  refine qr_i2l 895 (qf_11 (by decide) rfl) (rx _) rfl ?_
  refine qr_bipush 897 (qf_11 (by decide) rfl) (by decide) rfl ?_
  refine qr_lshl 898 (qf_11 (by decide) rfl) rfl ?_
  refine qr_aload_n 899 (qf_11 (by decide) rfl) rfl rfl ?_
  refine qr_iload_n 900 (qf_12 (by decide) rfl) rfl rfl ?_
  refine qr_iconst 901 (qf_12 (by decide) rfl) rfl ?_
  refine qr_iadd 902 (qf_12 (by decide) rfl) rfl ?_
  refine qr_iaload 903 (qf_12 (by decide) rfl) rfl (by omega) (by omega) rfl ?_
  refine qy_v (xs ((i + 3) : Int).toNat) rfl ?_
  refine qr_i2l 904 (qf_12 (by decide) rfl) (rx _) rfl ?_
  refine qr_ldc2 4294967295 907 (qf_12 (by decide) rfl) (by decide) rfl ?_
  refine qr_land 908 (qf_12 (by decide) rfl) rfl ?_
  refine qr_lor 909 (qf_12 (by decide) rfl) rfl ?_
  refine qr_aload_n 910 (qf_12 (by decide) rfl) rfl rfl ?_
  refine qr_iload_n 911 (qf_12 (by decide) rfl) rfl rfl ?_
  refine qr_iconst 912 (qf_12 (by decide) rfl) rfl ?_
  refine qr_iadd 913 (qf_12 (by decide) rfl) rfl ?_
  refine qr_iaload 914 (qf_12 (by decide) rfl) rfl (by omega) (by omega) rfl ?_
  refine qy_v (xs ((i + 4) : Int).toNat) rfl ?_
  refine qr_call 917 109 19340 (qf_12 (by decide) rfl) rfl (Nat.le_of_ble_eq_true rfl) (Nat.le_of_ble_eq_true rfl) rfl rfl (sf_87_16s (d := 95) hI (rx _) (ql_rng _) (rx _) hS (by omega)) ?_
  rintro _ _ ⟨σ1, α1, rfl, hI1, hG1, hw1_0, hw1_1, v1, rfl, hv1, hx1_0⟩
  have k1_16_15 : σ1 16 15 = σ 16 15 := hG1.1 16 15 (by decide)
  have k1_86_4 : σ1 86 4 = σ 86 4 := hG1.1 86 4 (by decide)
  have k1_86_5 : σ1 86 5 = σ 86 5 := hG1.1 86 5 (by decide)
  have k1_86_11 : σ1 86 11 = σ 86 11 := hG1.1 86 11 (by decide)
  have k1_86_32 : σ1 86 32 = σ 86 32 := hG1.1 86 32 (by decide)
  have hR_1 := qR_fr hG1 (by decide) (by decide) hR
  have hK_1 := qR2_fr hG1 (by decide) (by decide) hK
  have hT_1 := qTp_fr hG1 (by decide) hT
  have hF_1 := qRF_fr hG1 (by decide) (by decide) hF
  have hP_1 := qRP_fr hG1 (by decide) (by decide) hP
  have hH_1 := qRH_fr hG1 (by decide) (by decide) hH
  have hD_1 := qRL_fr hG1 (by decide) (by decide) hD
  have hN_1 := qRN_fr hG1 (by decide) hN
  have hB_1 := qRT_fr hG1 (by decide) (by decide) hB
  have hC_1 := qRC_fr hG1 (by decide) (by decide) (by decide) (by decide) hC
  have hW_1 := qRS_fr hG1 (by decide) (by decide) hW
  have hZ_1 := qPZ_fr hG1 (by decide) (by decide) hZ
  show qr_W (qe L xs vb) 100 qx_e0 lw_Q0 (917, [(3, .int (qz i)), (2, .ref 86), (1, .ref 16), (0, .ref 0)], [.int (qz v1)], qw σ1 α1 κ ρ, 109, 19340)
  refine qr_pop 918 (qf_12 (by decide) rfl) rfl rfl ?_
  refine qr_aload_n 919 (qf_12 (by decide) rfl) rfl rfl ?_
  refine qr_aload_n 920 (qf_12 (by decide) rfl) rfl rfl ?_
  refine qr_iload_n 921 (qf_12 (by decide) rfl) rfl rfl ?_
  refine qr_iconst 922 (qf_12 (by decide) rfl) rfl ?_
  refine qr_iadd 923 (qf_12 (by decide) rfl) rfl ?_
  refine qr_iaload 924 (qf_12 (by decide) rfl) rfl (by omega) (by omega) rfl ?_
  refine qy_v (xs ((i + 1) : Int).toNat) rfl ?_
  refine qr_aload_n 925 (qf_12 (by decide) rfl) rfl rfl ?_
  refine qr_iload_n 926 (qf_12 (by decide) rfl) rfl rfl ?_
  refine qr_iconst 927 (qf_12 (by decide) rfl) rfl ?_
  refine qr_iadd 928 (qf_12 (by decide) rfl) rfl ?_
  refine qr_iaload 929 (qf_12 (by decide) rfl) rfl (by omega) (by omega) rfl ?_
  refine qy_v (xs ((i + 2) : Int).toNat) rfl ?_
  refine qr_i2l 930 (qf_12 (by decide) rfl) (rx _) rfl ?_
  refine qr_bipush 932 (qf_12 (by decide) rfl) (by decide) rfl ?_
  refine qr_lshl 933 (qf_12 (by decide) rfl) rfl ?_
  refine qr_aload_n 934 (qf_12 (by decide) rfl) rfl rfl ?_
  refine qr_iload_n 935 (qf_12 (by decide) rfl) rfl rfl ?_
  refine qr_iconst 936 (qf_12 (by decide) rfl) rfl ?_
  refine qr_iadd 937 (qf_12 (by decide) rfl) rfl ?_
  refine qr_iaload 938 (qf_12 (by decide) rfl) rfl (by omega) (by omega) rfl ?_
  refine qy_v (xs ((i + 3) : Int).toNat) rfl ?_
  refine qr_i2l 939 (qf_12 (by decide) rfl) (rx _) rfl ?_
  refine qr_ldc2 4294967295 942 (qf_12 (by decide) rfl) (by decide) rfl ?_
  refine qr_land 943 (qf_12 (by decide) rfl) rfl ?_
  refine qr_lor 944 (qf_12 (by decide) rfl) rfl ?_
  refine qr_aload_n 945 (qf_12 (by decide) rfl) rfl rfl ?_
  refine qr_iload_n 946 (qf_12 (by decide) rfl) rfl rfl ?_
  refine qr_iconst 947 (qf_12 (by decide) rfl) rfl ?_
  refine qr_iadd 948 (qf_12 (by decide) rfl) rfl ?_
  refine qr_iaload 949 (qf_12 (by decide) rfl) rfl (by omega) (by omega) rfl ?_
  refine qy_v (xs ((i + 4) : Int).toNat) rfl ?_
  refine qr_call 952 109 19340 (qf_12 (by decide) rfl) rfl (Nat.le_of_ble_eq_true rfl) (Nat.le_of_ble_eq_true rfl) rfl rfl (sf_224_86 (d := 52) hI1 (rx _) (ql_rng _) (rx _)) ?_
  rintro _ _ ⟨σ2, α2, rfl, hI2, hG2, v2, rfl, hv2⟩
  have k2_16_15 : σ2 16 15 = σ1 16 15 := hG2.1 16 15 (by decide)
  have k2_58_12 : σ2 58 12 = σ1 58 12 := hG2.1 58 12 (by decide)
  have k2_86_4 : σ2 86 4 = σ1 86 4 := hG2.1 86 4 (by decide)
  have k2_86_5 : σ2 86 5 = σ1 86 5 := hG2.1 86 5 (by decide)
  have k2_86_11 : σ2 86 11 = σ1 86 11 := hG2.1 86 11 (by decide)
  have k2_86_32 : σ2 86 32 = σ1 86 32 := hG2.1 86 32 (by decide)
  have hR_2 := qR_fr hG2 (by decide) (by decide) hR_1
  have hK_2 := qR2_fr hG2 (by decide) (by decide) hK_1
  have hT_2 := qTp_fr hG2 (by decide) hT_1
  have hF_2 := qRF_fr hG2 (by decide) (by decide) hF_1
  have hP_2 := qRP_fr hG2 (by decide) (by decide) hP_1
  have hH_2 := qRH_fr hG2 (by decide) (by decide) hH_1
  have hD_2 := qRL_fr hG2 (by decide) (by decide) hD_1
  have hN_2 := qRN_fr hG2 (by decide) hN_1
  have hB_2 := qRT_fr hG2 (by decide) (by decide) hB_1
  have hC_2 := qRC_fr hG2 (by decide) (by decide) (by decide) (by decide) hC_1
  have hS_2 := qSt_fr hG2 (by decide) (by decide) hx1_0
  have hW_2 := qRS_fr hG2 (by decide) (by decide) hW_1
  have hZ_2 := qPZ_fr hG2 (by decide) (by decide) hZ_1
  show qr_W (qe L xs vb) 100 qx_e0 lw_Q0 (952, [(3, .int (qz i)), (2, .ref 86), (1, .ref 16), (0, .ref 0)], [.int (qz v2)], qw σ2 α2 κ ρ, 109, 19340)
  refine qr_pop 953 (qf_12 (by decide) rfl) rfl rfl ?_
  refine qr_goto 2036 (qf_12 (by decide) rfl) rfl ?_
  exact lw_end hL hi rx (hk _ _ _ _ ⟨hI2, by omega, by omega, by omega, hZ_2, hR_2, hK_2, hT_2, hF_2, hP_2, hH_2, hD_2, hN_2, hB_2, hC_2, hS_2, hW_2⟩)
set_option maxHeartbeats 4000000 in
set_option maxRecDepth 20000 in
theorem lw_c18 {L : Nat} {xs : Nat → Int} {vb : Bool} {i : Int} {σ α : Nat → Nat → Int} {κ : Nat → Option Nat} {ρ : Nat} (hL : L ≤ 3072) (hi : 0 ≤ i ∧ i + 6 ≤ (L : Int)) (rx : ∀ k, -2147483648 ≤ xs k ∧ xs k ≤ 2147483647) (hJ : lw_J i σ α κ ρ) (hk : ∀ σ' α' κ' ρ', lw_J (i + 6) σ' α' κ' ρ' → qr_W (qe L xs vb) 100 qx_e0 lw_Q0 (18, [(3, .int (qz (i + 6))), (2, .ref 86), (1, .ref 16), (0, .ref 0)], [], qw σ' α' κ' ρ', 109, 19340)) : qr_W (qe L xs vb) 100 qx_e0 lw_Q0 (956, [(3, .int (qz i)), (2, .ref 86), (1, .ref 16), (0, .ref 0)], [], qw σ α κ ρ, 109, 19340) := by
  obtain ⟨hI, hj0, hj1, hj2, hZ, hR, hK, hT, hF, hP, hH, hD, hN, hB, hC, hS, hW⟩ := hJ
  refine qr_aload_n 957 (qf_12 (by decide) rfl) rfl rfl ?_
  refine qr_aload_n 958 (qf_12 (by decide) rfl) rfl rfl ?_
  refine qr_iload_n 959 (qf_12 (by decide) rfl) rfl rfl ?_
  refine qr_iconst 960 (qf_12 (by decide) rfl) rfl ?_
  refine qr_iadd 961 (qf_13 (by decide) rfl) rfl ?_
  refine qr_iaload 962 (qf_13 (by decide) rfl) rfl (by omega) (by omega) rfl ?_
  refine qy_v (xs ((i + 1) : Int).toNat) rfl ?_
  refine qr_i2l 963 (qf_13 (by decide) rfl) (rx _) rfl ?_
  refine qr_bipush 965 (qf_13 (by decide) rfl) (by decide) rfl ?_
  refine qr_lshl 966 (qf_13 (by decide) rfl) rfl ?_
  refine qr_aload_n 967 (qf_13 (by decide) rfl) rfl rfl ?_
  refine qr_iload_n 968 (qf_13 (by decide) rfl) rfl rfl ?_
  refine qr_iconst 969 (qf_13 (by decide) rfl) rfl ?_
  refine qr_iadd 970 (qf_13 (by decide) rfl) rfl ?_
  refine qr_iaload 971 (qf_13 (by decide) rfl) rfl (by omega) (by omega) rfl ?_
  refine qy_v (xs ((i + 2) : Int).toNat) rfl ?_
  refine qr_i2l 972 (qf_13 (by decide) rfl) (rx _) rfl ?_
  refine qr_ldc2 4294967295 975 (qf_13 (by decide) rfl) (by decide) rfl ?_
  refine qr_land 976 (qf_13 (by decide) rfl) rfl ?_
  refine qr_lor 977 (qf_13 (by decide) rfl) rfl ?_
  refine qr_aload_n 978 (qf_13 (by decide) rfl) rfl rfl ?_
  refine qr_iload_n 979 (qf_13 (by decide) rfl) rfl rfl ?_
  refine qr_iconst 980 (qf_13 (by decide) rfl) rfl ?_
  refine qr_iadd 981 (qf_13 (by decide) rfl) rfl ?_
  refine qr_iaload 982 (qf_13 (by decide) rfl) rfl (by omega) (by omega) rfl ?_
  refine qy_v (xs ((i + 3) : Int).toNat) rfl ?_
  refine qr_aload_n 983 (qf_13 (by decide) rfl) rfl rfl ?_
  refine qr_iload_n 984 (qf_13 (by decide) rfl) rfl rfl ?_
  refine qr_iconst 985 (qf_13 (by decide) rfl) rfl ?_
  refine qr_iadd 986 (qf_13 (by decide) rfl) rfl ?_
  refine qr_iaload 987 (qf_13 (by decide) rfl) rfl (by omega) (by omega) rfl ?_
  refine qy_v (xs ((i + 4) : Int).toNat) rfl ?_
  refine qr_call 990 109 19340 (qf_13 (by decide) rfl) rfl (Nat.le_of_ble_eq_true rfl) (Nat.le_of_ble_eq_true rfl) rfl rfl (sf_99_16s (d := 94) hI (ql_rng _) (rx _) (rx _) hS (by omega)) ?_
  rintro _ _ ⟨σ1, α1, rfl, hI1, hG1, hw1_0, hw1_1, v1, rfl, hv1, hx1_0⟩
  have k1_16_15 : σ1 16 15 = σ 16 15 := hG1.1 16 15 (by decide)
  have k1_86_4 : σ1 86 4 = σ 86 4 := hG1.1 86 4 (by decide)
  have k1_86_5 : σ1 86 5 = σ 86 5 := hG1.1 86 5 (by decide)
  have k1_86_11 : σ1 86 11 = σ 86 11 := hG1.1 86 11 (by decide)
  have k1_86_32 : σ1 86 32 = σ 86 32 := hG1.1 86 32 (by decide)
  have hR_1 := qR_fr hG1 (by decide) (by decide) hR
  have hK_1 := qR2_fr hG1 (by decide) (by decide) hK
  have hT_1 := qTp_fr hG1 (by decide) hT
  have hF_1 := qRF_fr hG1 (by decide) (by decide) hF
  have hP_1 := qRP_fr hG1 (by decide) (by decide) hP
  have hH_1 := qRH_fr hG1 (by decide) (by decide) hH
  have hD_1 := qRL_fr hG1 (by decide) (by decide) hD
  have hN_1 := qRN_fr hG1 (by decide) hN
  have hB_1 := qRT_fr hG1 (by decide) (by decide) hB
  have hC_1 := qRC_fr hG1 (by decide) (by decide) (by decide) (by decide) hC
  have hW_1 := qRS_fr hG1 (by decide) (by decide) hW
  have hZ_1 := qPZ_fr hG1 (by decide) (by decide) hZ
  show qr_W (qe L xs vb) 100 qx_e0 lw_Q0 (990, [(3, .int (qz i)), (2, .ref 86), (1, .ref 16), (0, .ref 0)], [.int (qz v1)], qw σ1 α1 κ ρ, 109, 19340)
  refine qr_pop 991 (qf_13 (by decide) rfl) rfl rfl ?_
  refine qr_aload_n 992 (qf_13 (by decide) rfl) rfl rfl ?_
  refine qr_aload_n 993 (qf_13 (by decide) rfl) rfl rfl ?_
  refine qr_iload_n 994 (qf_13 (by decide) rfl) rfl rfl ?_
  refine qr_iconst 995 (qf_13 (by decide) rfl) rfl ?_
  refine qr_iadd 996 (qf_13 (by decide) rfl) rfl ?_
  refine qr_iaload 997 (qf_13 (by decide) rfl) rfl (by omega) (by omega) rfl ?_
  refine qy_v (xs ((i + 1) : Int).toNat) rfl ?_
  refine qr_i2l 998 (qf_13 (by decide) rfl) (rx _) rfl ?_
  refine qr_bipush 1000 (qf_13 (by decide) rfl) (by decide) rfl ?_
  refine qr_lshl 1001 (qf_13 (by decide) rfl) rfl ?_
  refine qr_aload_n 1002 (qf_13 (by decide) rfl) rfl rfl ?_
  refine qr_iload_n 1003 (qf_13 (by decide) rfl) rfl rfl ?_
  refine qr_iconst 1004 (qf_13 (by decide) rfl) rfl ?_
  refine qr_iadd 1005 (qf_13 (by decide) rfl) rfl ?_
  refine qr_iaload 1006 (qf_13 (by decide) rfl) rfl (by omega) (by omega) rfl ?_
  refine qy_v (xs ((i + 2) : Int).toNat) rfl ?_
  refine qr_i2l 1007 (qf_13 (by decide) rfl) (rx _) rfl ?_
  refine qr_ldc2 4294967295 1010 (qf_13 (by decide) rfl) (by decide) rfl ?_
  refine qr_land 1011 (qf_13 (by decide) rfl) rfl ?_
  refine qr_lor 1012 (qf_13 (by decide) rfl) rfl ?_
  refine qr_aload_n 1013 (qf_13 (by decide) rfl) rfl rfl ?_
  refine qr_iload_n 1014 (qf_13 (by decide) rfl) rfl rfl ?_
  refine qr_iconst 1015 (qf_13 (by decide) rfl) rfl ?_
  refine qr_iadd 1016 (qf_13 (by decide) rfl) rfl ?_
  refine qr_iaload 1017 (qf_13 (by decide) rfl) rfl (by omega) (by omega) rfl ?_
  refine qy_v (xs ((i + 3) : Int).toNat) rfl ?_
  refine qr_aload_n 1018 (qf_13 (by decide) rfl) rfl rfl ?_
  refine qr_iload_n 1019 (qf_14 (by decide) rfl) rfl rfl ?_
  refine qr_iconst 1020 (qf_14 (by decide) rfl) rfl ?_
  refine qr_iadd 1021 (qf_14 (by decide) rfl) rfl ?_
  refine qr_iaload 1022 (qf_14 (by decide) rfl) rfl (by omega) (by omega) rfl ?_
  refine qy_v (xs ((i + 4) : Int).toNat) rfl ?_
  refine qr_call 1025 109 19340 (qf_14 (by decide) rfl) rfl (Nat.le_of_ble_eq_true rfl) (Nat.le_of_ble_eq_true rfl) rfl rfl (sf_229_86 (d := 52) hI1 (ql_rng _) (rx _) (rx _)) ?_
  rintro _ _ ⟨σ2, α2, rfl, hI2, hG2, v2, rfl, hv2⟩
  have k2_16_15 : σ2 16 15 = σ1 16 15 := hG2.1 16 15 (by decide)
  have k2_58_12 : σ2 58 12 = σ1 58 12 := hG2.1 58 12 (by decide)
  have k2_86_4 : σ2 86 4 = σ1 86 4 := hG2.1 86 4 (by decide)
  have k2_86_5 : σ2 86 5 = σ1 86 5 := hG2.1 86 5 (by decide)
  have k2_86_11 : σ2 86 11 = σ1 86 11 := hG2.1 86 11 (by decide)
  have k2_86_32 : σ2 86 32 = σ1 86 32 := hG2.1 86 32 (by decide)
  have hR_2 := qR_fr hG2 (by decide) (by decide) hR_1
  have hK_2 := qR2_fr hG2 (by decide) (by decide) hK_1
  have hT_2 := qTp_fr hG2 (by decide) hT_1
  have hF_2 := qRF_fr hG2 (by decide) (by decide) hF_1
  have hP_2 := qRP_fr hG2 (by decide) (by decide) hP_1
  have hH_2 := qRH_fr hG2 (by decide) (by decide) hH_1
  have hD_2 := qRL_fr hG2 (by decide) (by decide) hD_1
  have hN_2 := qRN_fr hG2 (by decide) hN_1
  have hB_2 := qRT_fr hG2 (by decide) (by decide) hB_1
  have hC_2 := qRC_fr hG2 (by decide) (by decide) (by decide) (by decide) hC_1
  have hS_2 := qSt_fr hG2 (by decide) (by decide) hx1_0
  have hW_2 := qRS_fr hG2 (by decide) (by decide) hW_1
  have hZ_2 := qPZ_fr hG2 (by decide) (by decide) hZ_1
  show qr_W (qe L xs vb) 100 qx_e0 lw_Q0 (1025, [(3, .int (qz i)), (2, .ref 86), (1, .ref 16), (0, .ref 0)], [.int (qz v2)], qw σ2 α2 κ ρ, 109, 19340)
  refine qr_pop 1026 (qf_14 (by decide) rfl) rfl rfl ?_
  refine qr_goto 2036 (qf_14 (by decide) rfl) rfl ?_
  exact lw_end hL hi rx (hk _ _ _ _ ⟨hI2, by omega, by omega, by omega, hZ_2, hR_2, hK_2, hT_2, hF_2, hP_2, hH_2, hD_2, hN_2, hB_2, hC_2, hS_2, hW_2⟩)
set_option maxHeartbeats 4000000 in
set_option maxRecDepth 20000 in
theorem lw_c19 {L : Nat} {xs : Nat → Int} {vb : Bool} {i : Int} {σ α : Nat → Nat → Int} {κ : Nat → Option Nat} {ρ : Nat} (hL : L ≤ 3072) (hi : 0 ≤ i ∧ i + 6 ≤ (L : Int)) (rx : ∀ k, -2147483648 ≤ xs k ∧ xs k ≤ 2147483647) (hJ : lw_J i σ α κ ρ) (hk : ∀ σ' α' κ' ρ', lw_J (i + 6) σ' α' κ' ρ' → qr_W (qe L xs vb) 100 qx_e0 lw_Q0 (18, [(3, .int (qz (i + 6))), (2, .ref 86), (1, .ref 16), (0, .ref 0)], [], qw σ' α' κ' ρ', 109, 19340)) : qr_W (qe L xs vb) 100 qx_e0 lw_Q0 (1029, [(3, .int (qz i)), (2, .ref 86), (1, .ref 16), (0, .ref 0)], [], qw σ α κ ρ, 109, 19340) := by
  obtain ⟨hI, hj0, hj1, hj2, hZ, hR, hK, hT, hF, hP, hH, hD, hN, hB, hC, hS, hW⟩ := hJ
  refine qr_aload_n 1030 (qf_14 (by decide) rfl) rfl rfl ?_
  refine qr_aload_n 1031 (qf_14 (by decide) rfl) rfl rfl ?_
  refine qr_iload_n 1032 (qf_14 (by decide) rfl) rfl rfl ?_
  refine qr_iconst 1033 (qf_14 (by decide) rfl) rfl ?_
  refine qr_iadd 1034 (qf_14 (by decide) rfl) rfl ?_
  refine qr_iaload 1035 (qf_14 (by decide) rfl) rfl (by omega) (by omega) rfl ?_
  refine qy_v (xs ((i + 1) : Int).toNat) rfl ?_
  refine qr_aload_n 1036 (qf_14 (by decide) rfl) rfl rfl ?_
  refine qr_iload_n 1037 (qf_14 (by decide) rfl) rfl rfl ?_
  refine qr_iconst 1038 (qf_14 (by decide) rfl) rfl ?_
  refine qr_iadd 1039 (qf_14 (by decide) rfl) rfl ?_
  refine qr_iaload 1040 (qf_14 (by decide) rfl) rfl (by omega) (by omega) rfl ?_
  refine qy_v (xs ((i + 2) : Int).toNat) rfl ?_
  refine qr_call 1043 109 19340 (qf_14 (by decide) rfl) rfl (Nat.le_of_ble_eq_true rfl) (Nat.le_of_ble_eq_true rfl) rfl rfl (sf_105_16s (d := 93) hI (rx _) (rx _) hS (by omega)) ?_
  rintro _ _ ⟨σ1, α1, rfl, hI1, hG1, hw1_0, hw1_1, v1, rfl, hv1, hx1_0⟩
  have k1_16_15 : σ1 16 15 = σ 16 15 := hG1.1 16 15 (by decide)
  have k1_86_4 : σ1 86 4 = σ 86 4 := hG1.1 86 4 (by decide)
  have k1_86_5 : σ1 86 5 = σ 86 5 := hG1.1 86 5 (by decide)
  have k1_86_11 : σ1 86 11 = σ 86 11 := hG1.1 86 11 (by decide)
  have k1_86_32 : σ1 86 32 = σ 86 32 := hG1.1 86 32 (by decide)
  have hR_1 := qR_fr hG1 (by decide) (by decide) hR
  have hK_1 := qR2_fr hG1 (by decide) (by decide) hK
  have hT_1 := qTp_fr hG1 (by decide) hT
  have hF_1 := qRF_fr hG1 (by decide) (by decide) hF
  have hP_1 := qRP_fr hG1 (by decide) (by decide) hP
  have hH_1 := qRH_fr hG1 (by decide) (by decide) hH
  have hD_1 := qRL_fr hG1 (by decide) (by decide) hD
  have hN_1 := qRN_fr hG1 (by decide) hN
  have hB_1 := qRT_fr hG1 (by decide) (by decide) hB
  have hC_1 := qRC_fr hG1 (by decide) (by decide) (by decide) (by decide) hC
  have hW_1 := qRS_fr hG1 (by decide) (by decide) hW
  have hZ_1 := qPZ_fr hG1 (by decide) (by decide) hZ
  show qr_W (qe L xs vb) 100 qx_e0 lw_Q0 (1043, [(3, .int (qz i)), (2, .ref 86), (1, .ref 16), (0, .ref 0)], [.int (qz v1)], qw σ1 α1 κ ρ, 109, 19340)
  refine qr_pop 1044 (qf_14 (by decide) rfl) rfl rfl ?_
  refine qr_aload_n 1045 (qf_14 (by decide) rfl) rfl rfl ?_
  refine qr_aload_n 1046 (qf_14 (by decide) rfl) rfl rfl ?_
  refine qr_iload_n 1047 (qf_14 (by decide) rfl) rfl rfl ?_
  refine qr_iconst 1048 (qf_14 (by decide) rfl) rfl ?_
  refine qr_iadd 1049 (qf_14 (by decide) rfl) rfl ?_
  refine qr_iaload 1050 (qf_14 (by decide) rfl) rfl (by omega) (by omega) rfl ?_
  refine qy_v (xs ((i + 1) : Int).toNat) rfl ?_
  refine qr_aload_n 1051 (qf_14 (by decide) rfl) rfl rfl ?_
  refine qr_iload_n 1052 (qf_14 (by decide) rfl) rfl rfl ?_
  refine qr_iconst 1053 (qf_14 (by decide) rfl) rfl ?_
  refine qr_iadd 1054 (qf_14 (by decide) rfl) rfl ?_
  refine qr_iaload 1055 (qf_14 (by decide) rfl) rfl (by omega) (by omega) rfl ?_
  refine qy_v (xs ((i + 2) : Int).toNat) rfl ?_
  refine qr_call 1058 109 19340 (qf_14 (by decide) rfl) rfl (Nat.le_of_ble_eq_true rfl) (Nat.le_of_ble_eq_true rfl) rfl rfl (sf_231_86s (d := 51) hI1 (rx _) (rx _) ((hG1.1 86 41 (by decide)).trans hN.2.2.2.2.2)) ?_
  rintro _ _ ⟨σ2, α2, rfl, hI2, hG2, hw2_0, v2, rfl, hv2⟩
  have k2_16_15 : σ2 16 15 = σ1 16 15 := hG2.1 16 15 (by decide)
  have k2_58_12 : σ2 58 12 = σ1 58 12 := hG2.1 58 12 (by decide)
  have k2_86_4 : σ2 86 4 = σ1 86 4 := hG2.1 86 4 (by decide)
  have k2_86_5 : σ2 86 5 = σ1 86 5 := hG2.1 86 5 (by decide)
  have k2_86_11 : σ2 86 11 = σ1 86 11 := hG2.1 86 11 (by decide)
  have k2_86_32 : σ2 86 32 = σ1 86 32 := hG2.1 86 32 (by decide)
  have hR_2 := qR_fr hG2 (by decide) (by decide) hR_1
  have hK_2 := qR2_fr hG2 (by decide) (by decide) hK_1
  have hT_2 := qTp_fr hG2 (by decide) hT_1
  have hF_2 := qRF_fr hG2 (by decide) (by decide) hF_1
  have hP_2 := qRP_fr hG2 (by decide) (by decide) hP_1
  have hH_2 := qRH_fr hG2 (by decide) (by decide) hH_1
  have hD_2 := qRL_fr hG2 (by decide) (by decide) hD_1
  have hB_2 := qRT_fr hG2 (by decide) (by decide) hB_1
  have hC_2 := qRC_fr hG2 (by decide) (by decide) (by decide) (by decide) hC_1
  have hS_2 := qSt_fr hG2 (by decide) (by decide) hx1_0
  have hW_2 := qRS_fr hG2 (by decide) (by decide) hW_1
  have hZ_2 := qPZ_fr hG2 (by decide) (by decide) hZ_1
  have n2_17_5 : σ2 17 5 = σ1 17 5 := hG2.1 17 5 (by decide)
  have n2_27_6 : σ2 27 6 = σ1 27 6 := hG2.1 27 6 (by decide)
  have n2_58_10 : σ2 58 10 = σ1 58 10 := hG2.1 58 10 (by decide)
  have n2_86_10 : σ2 86 10 = σ1 86 10 := hG2.1 86 10 (by decide)
  have n2_86_22 : σ2 86 22 = σ1 86 22 := hG2.1 86 22 (by decide)
  have n2_86_29 : σ2 86 29 = σ1 86 29 := hG2.1 86 29 (by decide)
  have hN_2 : qRN σ2 α2 := by have hn := hN_1; unfold qRN at hn ⊢; omega
  show qr_W (qe L xs vb) 100 qx_e0 lw_Q0 (1058, [(3, .int (qz i)), (2, .ref 86), (1, .ref 16), (0, .ref 0)], [.int (qz v2)], qw σ2 α2 κ ρ, 109, 19340)
  refine qr_pop 1059 (qf_14 (by decide) rfl) rfl rfl ?_
  refine qr_goto 2036 (qf_14 (by decide) rfl) rfl ?_
  exact lw_end hL hi rx (hk _ _ _ _ ⟨hI2, by omega, by omega, by omega, hZ_2, hR_2, hK_2, hT_2, hF_2, hP_2, hH_2, hD_2, hN_2, hB_2, hC_2, hS_2, hW_2⟩)
set_option maxHeartbeats 4000000 in
set_option maxRecDepth 20000 in
theorem lw_c20 {L : Nat} {xs : Nat → Int} {vb : Bool} {i : Int} {σ α : Nat → Nat → Int} {κ : Nat → Option Nat} {ρ : Nat} (hL : L ≤ 3072) (hi : 0 ≤ i ∧ i + 6 ≤ (L : Int)) (rx : ∀ k, -2147483648 ≤ xs k ∧ xs k ≤ 2147483647) (hJ : lw_J i σ α κ ρ) (hk : ∀ σ' α' κ' ρ', lw_J (i + 6) σ' α' κ' ρ' → qr_W (qe L xs vb) 100 qx_e0 lw_Q0 (18, [(3, .int (qz (i + 6))), (2, .ref 86), (1, .ref 16), (0, .ref 0)], [], qw σ' α' κ' ρ', 109, 19340)) : qr_W (qe L xs vb) 100 qx_e0 lw_Q0 (1062, [(3, .int (qz i)), (2, .ref 86), (1, .ref 16), (0, .ref 0)], [], qw σ α κ ρ, 109, 19340) := by
  obtain ⟨hI, hj0, hj1, hj2, hZ, hR, hK, hT, hF, hP, hH, hD, hN, hB, hC, hS, hW⟩ := hJ
  refine qr_aload_n 1063 (qf_14 (by decide) rfl) rfl rfl ?_
  refine qr_aload_n 1064 (qf_14 (by decide) rfl) rfl rfl ?_
  refine qr_iload_n 1065 (qf_14 (by decide) rfl) rfl rfl ?_
  refine qr_iconst 1066 (qf_14 (by decide) rfl) rfl ?_
  refine qr_iadd 1067 (qf_14 (by decide) rfl) rfl ?_
  refine qr_iaload 1068 (qf_14 (by decide) rfl) rfl (by omega) (by omega) rfl ?_
  refine qy_v (xs ((i + 1) : Int).toNat) rfl ?_
  refine qr_i2l 1069 (qf_14 (by decide) rfl) (rx _) rfl ?_
  refine qr_bipush 1071 (qf_14 (by decide) rfl) (by decide) rfl ?_
  refine qr_lshl 1072 (qf_14 (by decide) rfl) rfl ?_
  refine qr_aload_n 1073 (qf_14 (by decide) rfl) rfl rfl ?_
  refine qr_iload_n 1074 (qf_14 (by decide) rfl) rfl rfl ?_
  refine qr_iconst 1075 (qf_14 (by decide) rfl) rfl ?_
  refine qr_iadd 1076 (qf_14 (by decide) rfl) rfl ?_
  refine qr_iaload 1077 (qf_14 (by decide) rfl) rfl (by omega) (by omega) rfl ?_
  refine qy_v (xs ((i + 2) : Int).toNat) rfl ?_
  refine qr_i2l 1078 (qf_14 (by decide) rfl) (rx _) rfl ?_
  refine qr_ldc2 4294967295 1081 (qf_14 (by decide) rfl) (by decide) rfl ?_
  refine qr_land 1082 (qf_15 (by decide) rfl) rfl ?_
  refine qr_lor 1083 (qf_15 (by decide) rfl) rfl ?_
  refine qr_aload_n 1084 (qf_15 (by decide) rfl) rfl rfl ?_
  refine qr_iload_n 1085 (qf_15 (by decide) rfl) rfl rfl ?_
  refine qr_iconst 1086 (qf_15 (by decide) rfl) rfl ?_
  refine qr_iadd 1087 (qf_15 (by decide) rfl) rfl ?_
  refine qr_iaload 1088 (qf_15 (by decide) rfl) rfl (by omega) (by omega) rfl ?_
  refine qy_v (xs ((i + 3) : Int).toNat) rfl ?_
  refine qr_i2l 1089 (qf_15 (by decide) rfl) (rx _) rfl ?_
  refine qr_bipush 1091 (qf_15 (by decide) rfl) (by decide) rfl ?_
  refine qr_lshl 1092 (qf_15 (by decide) rfl) rfl ?_
  refine qr_aload_n 1093 (qf_15 (by decide) rfl) rfl rfl ?_
  refine qr_iload_n 1094 (qf_15 (by decide) rfl) rfl rfl ?_
  refine qr_iconst 1095 (qf_15 (by decide) rfl) rfl ?_
  refine qr_iadd 1096 (qf_15 (by decide) rfl) rfl ?_
  refine qr_iaload 1097 (qf_15 (by decide) rfl) rfl (by omega) (by omega) rfl ?_
  refine qy_v (xs ((i + 4) : Int).toNat) rfl ?_
  refine qr_i2l 1098 (qf_15 (by decide) rfl) (rx _) rfl ?_
  refine qr_ldc2 4294967295 1101 (qf_15 (by decide) rfl) (by decide) rfl ?_
  refine qr_land 1102 (qf_15 (by decide) rfl) rfl ?_
  refine qr_lor 1103 (qf_15 (by decide) rfl) rfl ?_
  refine qr_aload_n 1104 (qf_15 (by decide) rfl) rfl rfl ?_
  refine qr_iload_n 1105 (qf_15 (by decide) rfl) rfl rfl ?_
  refine qr_iconst 1106 (qf_15 (by decide) rfl) rfl ?_
  refine qr_iadd 1107 (qf_15 (by decide) rfl) rfl ?_
  refine qr_iaload 1108 (qf_15 (by decide) rfl) rfl (by omega) (by omega) rfl ?_
  refine qy_v (xs ((i + 5) : Int).toNat) rfl ?_
  refine qr_call 1111 109 19340 (qf_15 (by decide) rfl) rfl (Nat.le_of_ble_eq_true rfl) (Nat.le_of_ble_eq_true rfl) rfl rfl (sf_108_16s (d := 92) hI (ql_rng _) (ql_rng _) (rx _) hS (by omega)) ?_
  rintro _ _ ⟨σ1, α1, rfl, hI1, hG1, hw1_0, hw1_1, v1, rfl, hv1, hx1_0⟩
  have k1_16_15 : σ1 16 15 = σ 16 15 := hG1.1 16 15 (by decide)
  have k1_86_4 : σ1 86 4 = σ 86 4 := hG1.1 86 4 (by decide)
  have k1_86_5 : σ1 86 5 = σ 86 5 := hG1.1 86 5 (by decide)
  have k1_86_11 : σ1 86 11 = σ 86 11 := hG1.1 86 11 (by decide)
  have k1_86_32 : σ1 86 32 = σ 86 32 := hG1.1 86 32 (by decide)
  have hR_1 := qR_fr hG1 (by decide) (by decide) hR
  have hK_1 := qR2_fr hG1 (by decide) (by decide) hK
  have hT_1 := qTp_fr hG1 (by decide) hT
  have hF_1 := qRF_fr hG1 (by decide) (by decide) hF
  have hP_1 := qRP_fr hG1 (by decide) (by decide) hP
  have hH_1 := qRH_fr hG1 (by decide) (by decide) hH
  have hD_1 := qRL_fr hG1 (by decide) (by decide) hD
  have hN_1 := qRN_fr hG1 (by decide) hN
  have hB_1 := qRT_fr hG1 (by decide) (by decide) hB
  have hC_1 := qRC_fr hG1 (by decide) (by decide) (by decide) (by decide) hC
  have hW_1 := qRS_fr hG1 (by decide) (by decide) hW
  have hZ_1 := qPZ_fr hG1 (by decide) (by decide) hZ
  show qr_W (qe L xs vb) 100 qx_e0 lw_Q0 (1111, [(3, .int (qz i)), (2, .ref 86), (1, .ref 16), (0, .ref 0)], [.long (ql v1)], qw σ1 α1 κ ρ, 109, 19340)
  refine qr_pop2 1112 (qf_15 (by decide) rfl) rfl rfl ?_
  refine qr_aload_n 1113 (qf_15 (by decide) rfl) rfl rfl ?_
  refine qr_aload_n 1114 (qf_15 (by decide) rfl) rfl rfl ?_
  refine qr_iload_n 1115 (qf_15 (by decide) rfl) rfl rfl ?_
  refine qr_iconst 1116 (qf_15 (by decide) rfl) rfl ?_
  refine qr_iadd 1117 (qf_15 (by decide) rfl) rfl ?_
  refine qr_iaload 1118 (qf_15 (by decide) rfl) rfl (by omega) (by omega) rfl ?_
  refine qy_v (xs ((i + 1) : Int).toNat) rfl ?_
  refine qr_i2l 1119 (qf_15 (by decide) rfl) (rx _) rfl ?_
  refine qr_bipush 1121 (qf_15 (by decide) rfl) (by decide) rfl ?_
  refine qr_lshl 1122 (qf_15 (by decide) rfl) rfl ?_
  refine qr_aload_n 1123 (qf_15 (by decide) rfl) rfl rfl ?_
  refine qr_iload_n 1124 (qf_15 (by decide) rfl) rfl rfl ?_
  refine qr_iconst 1125 (qf_15 (by decide) rfl) rfl ?_
  refine qr_iadd 1126 (qf_15 (by decide) rfl) rfl ?_
  refine qr_iaload 1127 (qf_15 (by decide) rfl) rfl (by omega) (by omega) rfl ?_
  refine qy_v (xs ((i + 2) : Int).toNat) rfl ?_
  refine qr_i2l 1128 (qf_15 (by decide) rfl) (rx _) rfl ?_
  refine qr_ldc2 4294967295 1131 (qf_15 (by decide) rfl) (by decide) rfl ?_
  refine qr_land 1132 (qf_15 (by decide) rfl) rfl ?_
  refine qr_lor 1133 (qf_15 (by decide) rfl) rfl ?_
  refine qr_aload_n 1134 (qf_15 (by decide) rfl) rfl rfl ?_
  refine qr_iload_n 1135 (qf_15 (by decide) rfl) rfl rfl ?_
  refine qr_iconst 1136 (qf_15 (by decide) rfl) rfl ?_
  refine qr_iadd 1137 (qf_15 (by decide) rfl) rfl ?_
  refine qr_iaload 1138 (qf_15 (by decide) rfl) rfl (by omega) (by omega) rfl ?_
  refine qy_v (xs ((i + 3) : Int).toNat) rfl ?_
  refine qr_i2l 1139 (qf_15 (by decide) rfl) (rx _) rfl ?_
  refine qr_bipush 1141 (qf_16 (by decide) rfl) (by decide) rfl ?_
  refine qr_lshl 1142 (qf_16 (by decide) rfl) rfl ?_
  refine qr_aload_n 1143 (qf_16 (by decide) rfl) rfl rfl ?_
  refine qr_iload_n 1144 (qf_16 (by decide) rfl) rfl rfl ?_
  refine qr_iconst 1145 (qf_16 (by decide) rfl) rfl ?_
  refine qr_iadd 1146 (qf_16 (by decide) rfl) rfl ?_
  refine qr_iaload 1147 (qf_16 (by decide) rfl) rfl (by omega) (by omega) rfl ?_
  refine qy_v (xs ((i + 4) : Int).toNat) rfl ?_
  refine qr_i2l 1148 (qf_16 (by decide) rfl) (rx _) rfl ?_
  refine qr_ldc2 4294967295 1151 (qf_16 (by decide) rfl) (by decide) rfl ?_
  refine qr_land 1152 (qf_16 (by decide) rfl) rfl ?_
  refine qr_lor 1153 (qf_16 (by decide) rfl) rfl ?_
  refine qr_aload_n 1154 (qf_16 (by decide) rfl) rfl rfl ?_
  refine qr_iload_n 1155 (qf_16 (by decide) rfl) rfl rfl ?_
  refine qr_iconst 1156 (qf_16 (by decide) rfl) rfl ?_
  refine qr_iadd 1157 (qf_16 (by decide) rfl) rfl ?_
  refine qr_iaload 1158 (qf_16 (by decide) rfl) rfl (by omega) (by omega) rfl ?_
  refine qy_v (xs ((i + 5) : Int).toNat) rfl ?_
  refine qr_call 1161 109 19340 (qf_16 (by decide) rfl) rfl (Nat.le_of_ble_eq_true rfl) (Nat.le_of_ble_eq_true rfl) rfl rfl (sf_233_86s (d := 50) hI1 (ql_rng _) (ql_rng _) (rx _) ((hG1.1 86 41 (by decide)).trans hN.2.2.2.2.2)) ?_
  rintro _ _ ⟨σ2, α2, rfl, hI2, hG2, hw2_0, v2, rfl, hv2⟩
  have k2_16_15 : σ2 16 15 = σ1 16 15 := hG2.1 16 15 (by decide)
  have k2_58_12 : σ2 58 12 = σ1 58 12 := hG2.1 58 12 (by decide)
  have k2_86_4 : σ2 86 4 = σ1 86 4 := hG2.1 86 4 (by decide)
  have k2_86_5 : σ2 86 5 = σ1 86 5 := hG2.1 86 5 (by decide)
  have k2_86_11 : σ2 86 11 = σ1 86 11 := hG2.1 86 11 (by decide)
  have k2_86_32 : σ2 86 32 = σ1 86 32 := hG2.1 86 32 (by decide)
  have hR_2 := qR_fr hG2 (by decide) (by decide) hR_1
  have hK_2 := qR2_fr hG2 (by decide) (by decide) hK_1
  have hT_2 := qTp_fr hG2 (by decide) hT_1
  have hF_2 := qRF_fr hG2 (by decide) (by decide) hF_1
  have hP_2 := qRP_fr hG2 (by decide) (by decide) hP_1
  have hH_2 := qRH_fr hG2 (by decide) (by decide) hH_1
  have hD_2 := qRL_fr hG2 (by decide) (by decide) hD_1
  have hB_2 := qRT_fr hG2 (by decide) (by decide) hB_1
  have hC_2 := qRC_fr hG2 (by decide) (by decide) (by decide) (by decide) hC_1
  have hS_2 := qSt_fr hG2 (by decide) (by decide) hx1_0
  have hW_2 := qRS_fr hG2 (by decide) (by decide) hW_1
  have hZ_2 := qPZ_fr hG2 (by decide) (by decide) hZ_1
  have n2_17_5 : σ2 17 5 = σ1 17 5 := hG2.1 17 5 (by decide)
  have n2_27_6 : σ2 27 6 = σ1 27 6 := hG2.1 27 6 (by decide)
  have n2_58_10 : σ2 58 10 = σ1 58 10 := hG2.1 58 10 (by decide)
  have n2_86_10 : σ2 86 10 = σ1 86 10 := hG2.1 86 10 (by decide)
  have n2_86_22 : σ2 86 22 = σ1 86 22 := hG2.1 86 22 (by decide)
  have n2_86_29 : σ2 86 29 = σ1 86 29 := hG2.1 86 29 (by decide)
  have hN_2 : qRN σ2 α2 := by have hn := hN_1; unfold qRN at hn ⊢; omega
  show qr_W (qe L xs vb) 100 qx_e0 lw_Q0 (1161, [(3, .int (qz i)), (2, .ref 86), (1, .ref 16), (0, .ref 0)], [.long (ql v2)], qw σ2 α2 κ ρ, 109, 19340)
  refine qr_pop2 1162 (qf_16 (by decide) rfl) rfl rfl ?_
  refine qr_goto 2036 (qf_16 (by decide) rfl) rfl ?_
  exact lw_end hL hi rx (hk _ _ _ _ ⟨hI2, by omega, by omega, by omega, hZ_2, hR_2, hK_2, hT_2, hF_2, hP_2, hH_2, hD_2, hN_2, hB_2, hC_2, hS_2, hW_2⟩)
set_option maxHeartbeats 4000000 in
set_option maxRecDepth 20000 in
theorem lw_c21 {L : Nat} {xs : Nat → Int} {vb : Bool} {i : Int} {σ α : Nat → Nat → Int} {κ : Nat → Option Nat} {ρ : Nat} (hL : L ≤ 3072) (hi : 0 ≤ i ∧ i + 6 ≤ (L : Int)) (rx : ∀ k, -2147483648 ≤ xs k ∧ xs k ≤ 2147483647) (hJ : lw_J i σ α κ ρ) (hk : ∀ σ' α' κ' ρ', lw_J (i + 6) σ' α' κ' ρ' → qr_W (qe L xs vb) 100 qx_e0 lw_Q0 (18, [(3, .int (qz (i + 6))), (2, .ref 86), (1, .ref 16), (0, .ref 0)], [], qw σ' α' κ' ρ', 109, 19340)) : qr_W (qe L xs vb) 100 qx_e0 lw_Q0 (1165, [(3, .int (qz i)), (2, .ref 86), (1, .ref 16), (0, .ref 0)], [], qw σ α κ ρ, 109, 19340) := by
  obtain ⟨hI, hj0, hj1, hj2, hZ, hR, hK, hT, hF, hP, hH, hD, hN, hB, hC, hS, hW⟩ := hJ
  refine qr_aload_n 1166 (qf_16 (by decide) rfl) rfl rfl ?_
  refine qr_aload_n 1167 (qf_16 (by decide) rfl) rfl rfl ?_
  refine qr_iload_n 1168 (qf_16 (by decide) rfl) rfl rfl ?_
  refine qr_iconst 1169 (qf_16 (by decide) rfl) rfl ?_
  refine qr_iadd 1170 (qf_16 (by decide) rfl) rfl ?_
  refine qr_iaload 1171 (qf_16 (by decide) rfl) rfl (by omega) (by omega) rfl ?_
  refine qy_v (xs ((i + 1) : Int).toNat) rfl ?_
  refine qr_i2l 1172 (qf_16 (by decide) rfl) (rx _) rfl ?_
  refine qr_bipush 1174 (qf_16 (by decide) rfl) (by decide) rfl ?_
  refine qr_lshl 1175 (qf_16 (by decide) rfl) rfl ?_
  refine qr_aload_n 1176 (qf_16 (by decide) rfl) rfl rfl ?_
  refine qr_iload_n 1177 (qf_16 (by decide) rfl) rfl rfl ?_
  refine qr_iconst 1178 (qf_16 (by decide) rfl) rfl ?_
  refine qr_iadd 1179 (qf_16 (by decide) rfl) rfl ?_
  refine qr_iaload 1180 (qf_16 (by decide) rfl) rfl (by omega) (by omega) rfl ?_
  refine qy_v (xs ((i + 2) : Int).toNat) rfl ?_
  refine qr_i2l 1181 (qf_16 (by decide) rfl) (rx _) rfl ?_
  refine qr_ldc2 4294967295 1184 (qf_16 (by decide) rfl) (by decide) rfl ?_
  refine qr_land 1185 (qf_16 (by decide) rfl) rfl ?_
  refine qr_lor 1186 (qf_16 (by decide) rfl) rfl ?_
  refine qr_aload_n 1187 (qf_16 (by decide) rfl) rfl rfl ?_
  refine qr_iload_n 1188 (qf_16 (by decide) rfl) rfl rfl ?_
  refine qr_iconst 1189 (qf_16 (by decide) rfl) rfl ?_
  refine qr_iadd 1190 (qf_16 (by decide) rfl) rfl ?_
  refine qr_iaload 1191 (qf_16 (by decide) rfl) rfl (by omega) (by omega) rfl ?_
  refine qy_v (xs ((i + 3) : Int).toNat) rfl ?_
  refine qr_aload_n 1192 (qf_16 (by decide) rfl) rfl rfl ?_
  refine qr_iload_n 1193 (qf_16 (by decide) rfl) rfl rfl ?_
  refine qr_iconst 1194 (qf_16 (by decide) rfl) rfl ?_
  refine qr_iadd 1195 (qf_16 (by decide) rfl) rfl ?_
  refine qr_iaload 1196 (qf_16 (by decide) rfl) rfl (by omega) (by omega) rfl ?_
  refine qy_v (xs ((i + 4) : Int).toNat) rfl ?_
  refine qr_call 1199 109 19340 (qf_16 (by decide) rfl) rfl (Nat.le_of_ble_eq_true rfl) (Nat.le_of_ble_eq_true rfl) rfl rfl (sf_117_16s (d := 92) hI (ql_rng _) (rx _) (rx _) hS (by omega)) ?_
  rintro _ _ ⟨σ1, α1, rfl, hI1, hG1, hw1_0, hw1_1, v1, rfl, hv1, hx1_0⟩
  have k1_16_15 : σ1 16 15 = σ 16 15 := hG1.1 16 15 (by decide)
  have k1_86_4 : σ1 86 4 = σ 86 4 := hG1.1 86 4 (by decide)
  have k1_86_5 : σ1 86 5 = σ 86 5 := hG1.1 86 5 (by decide)
  have k1_86_11 : σ1 86 11 = σ 86 11 := hG1.1 86 11 (by decide)
  have k1_86_32 : σ1 86 32 = σ 86 32 := hG1.1 86 32 (by decide)
  have hR_1 := qR_fr hG1 (by decide) (by decide) hR
  have hK_1 := qR2_fr hG1 (by decide) (by decide) hK
  have hT_1 := qTp_fr hG1 (by decide) hT
  have hF_1 := qRF_fr hG1 (by decide) (by decide) hF
  have hP_1 := qRP_fr hG1 (by decide) (by decide) hP
  have hH_1 := qRH_fr hG1 (by decide) (by decide) hH
  have hD_1 := qRL_fr hG1 (by decide) (by decide) hD
  have hN_1 := qRN_fr hG1 (by decide) hN
  have hB_1 := qRT_fr hG1 (by decide) (by decide) hB
  have hC_1 := qRC_fr hG1 (by decide) (by decide) (by decide) (by decide) hC
  have hW_1 := qRS_fr hG1 (by decide) (by decide) hW
  have hZ_1 := qPZ_fr hG1 (by decide) (by decide) hZ
  show qr_W (qe L xs vb) 100 qx_e0 lw_Q0 (1199, [(3, .int (qz i)), (2, .ref 86), (1, .ref 16), (0, .ref 0)], [.long (ql v1)], qw σ1 α1 κ ρ, 109, 19340)
  refine qr_pop2 1200 (qf_16 (by decide) rfl) rfl rfl ?_
  refine qr_aload_n 1201 (qf_16 (by decide) rfl) rfl rfl ?_
  refine qr_aload_n 1202 (qf_17 (by decide) rfl) rfl rfl ?_
  refine qr_iload_n 1203 (qf_17 (by decide) rfl) rfl rfl ?_
  refine qr_iconst 1204 (qf_17 (by decide) rfl) rfl ?_
  refine qr_iadd 1205 (qf_17 (by decide) rfl) rfl ?_
  refine qr_iaload 1206 (qf_17 (by decide) rfl) rfl (by omega) (by omega) rfl ?_
  refine qy_v (xs ((i + 1) : Int).toNat) rfl ?_
  refine qr_i2l 1207 (qf_17 (by decide) rfl) (rx _) rfl ?_
  refine qr_bipush 1209 (qf_17 (by decide) rfl) (by decide) rfl ?_
  refine qr_lshl 1210 (qf_17 (by decide) rfl) rfl ?_
  refine qr_aload_n 1211 (qf_17 (by decide) rfl) rfl rfl ?_
  refine qr_iload_n 1212 (qf_17 (by decide) rfl) rfl rfl ?_
  refine qr_iconst 1213 (qf_17 (by decide) rfl) rfl ?_
  refine qr_iadd 1214 (qf_17 (by decide) rfl) rfl ?_
  refine qr_iaload 1215 (qf_17 (by decide) rfl) rfl (by omega) (by omega) rfl ?_
  refine qy_v (xs ((i + 2) : Int).toNat) rfl ?_
  refine qr_i2l 1216 (qf_17 (by decide) rfl) (rx _) rfl ?_
  refine qr_ldc2 4294967295 1219 (qf_17 (by decide) rfl) (by decide) rfl ?_
  refine qr_land 1220 (qf_17 (by decide) rfl) rfl ?_
  refine qr_lor 1221 (qf_17 (by decide) rfl) rfl ?_
  refine qr_aload_n 1222 (qf_17 (by decide) rfl) rfl rfl ?_
  refine qr_iload_n 1223 (qf_17 (by decide) rfl) rfl rfl ?_
  refine qr_iconst 1224 (qf_17 (by decide) rfl) rfl ?_
  refine qr_iadd 1225 (qf_17 (by decide) rfl) rfl ?_
  refine qr_iaload 1226 (qf_17 (by decide) rfl) rfl (by omega) (by omega) rfl ?_
  refine qy_v (xs ((i + 3) : Int).toNat) rfl ?_
  refine qr_aload_n 1227 (qf_17 (by decide) rfl) rfl rfl ?_
  refine qr_iload_n 1228 (qf_17 (by decide) rfl) rfl rfl ?_
  refine qr_iconst 1229 (qf_17 (by decide) rfl) rfl ?_
  refine qr_iadd 1230 (qf_17 (by decide) rfl) rfl ?_
  refine qr_iaload 1231 (qf_17 (by decide) rfl) rfl (by omega) (by omega) rfl ?_
  refine qy_v (xs ((i + 4) : Int).toNat) rfl ?_
  refine qr_call 1234 109 19340 (qf_17 (by decide) rfl) rfl (Nat.le_of_ble_eq_true rfl) (Nat.le_of_ble_eq_true rfl) rfl rfl (sf_238_86s (d := 50) hI1 (ql_rng _) (rx _) (rx _) ((hG1.1 86 41 (by decide)).trans hN.2.2.2.2.2)) ?_
  rintro _ _ ⟨σ2, α2, rfl, hI2, hG2, hw2_0, v2, rfl, hv2⟩
  have k2_16_15 : σ2 16 15 = σ1 16 15 := hG2.1 16 15 (by decide)
  have k2_58_12 : σ2 58 12 = σ1 58 12 := hG2.1 58 12 (by decide)
  have k2_86_4 : σ2 86 4 = σ1 86 4 := hG2.1 86 4 (by decide)
  have k2_86_5 : σ2 86 5 = σ1 86 5 := hG2.1 86 5 (by decide)
  have k2_86_11 : σ2 86 11 = σ1 86 11 := hG2.1 86 11 (by decide)
  have k2_86_32 : σ2 86 32 = σ1 86 32 := hG2.1 86 32 (by decide)
  have hR_2 := qR_fr hG2 (by decide) (by decide) hR_1
  have hK_2 := qR2_fr hG2 (by decide) (by decide) hK_1
  have hT_2 := qTp_fr hG2 (by decide) hT_1
  have hF_2 := qRF_fr hG2 (by decide) (by decide) hF_1
  have hP_2 := qRP_fr hG2 (by decide) (by decide) hP_1
  have hH_2 := qRH_fr hG2 (by decide) (by decide) hH_1
  have hD_2 := qRL_fr hG2 (by decide) (by decide) hD_1
  have hB_2 := qRT_fr hG2 (by decide) (by decide) hB_1
  have hC_2 := qRC_fr hG2 (by decide) (by decide) (by decide) (by decide) hC_1
  have hS_2 := qSt_fr hG2 (by decide) (by decide) hx1_0
  have hW_2 := qRS_fr hG2 (by decide) (by decide) hW_1
  have hZ_2 := qPZ_fr hG2 (by decide) (by decide) hZ_1
  have n2_17_5 : σ2 17 5 = σ1 17 5 := hG2.1 17 5 (by decide)
  have n2_27_6 : σ2 27 6 = σ1 27 6 := hG2.1 27 6 (by decide)
  have n2_58_10 : σ2 58 10 = σ1 58 10 := hG2.1 58 10 (by decide)
  have n2_86_10 : σ2 86 10 = σ1 86 10 := hG2.1 86 10 (by decide)
  have n2_86_22 : σ2 86 22 = σ1 86 22 := hG2.1 86 22 (by decide)
  have n2_86_29 : σ2 86 29 = σ1 86 29 := hG2.1 86 29 (by decide)
  have hN_2 : qRN σ2 α2 := by have hn := hN_1; unfold qRN at hn ⊢; omega
  show qr_W (qe L xs vb) 100 qx_e0 lw_Q0 (1234, [(3, .int (qz i)), (2, .ref 86), (1, .ref 16), (0, .ref 0)], [.long (ql v2)], qw σ2 α2 κ ρ, 109, 19340)
  refine qr_pop2 1235 (qf_17 (by decide) rfl) rfl rfl ?_
  refine qr_goto 2036 (qf_17 (by decide) rfl) rfl ?_
  exact lw_end hL hi rx (hk _ _ _ _ ⟨hI2, by omega, by omega, by omega, hZ_2, hR_2, hK_2, hT_2, hF_2, hP_2, hH_2, hD_2, hN_2, hB_2, hC_2, hS_2, hW_2⟩)
set_option maxHeartbeats 4000000 in
set_option maxRecDepth 20000 in
theorem lw_c22 {L : Nat} {xs : Nat → Int} {vb : Bool} {i : Int} {σ α : Nat → Nat → Int} {κ : Nat → Option Nat} {ρ : Nat} (hL : L ≤ 3072) (hi : 0 ≤ i ∧ i + 6 ≤ (L : Int)) (rx : ∀ k, -2147483648 ≤ xs k ∧ xs k ≤ 2147483647) (hJ : lw_J i σ α κ ρ) (hk : ∀ σ' α' κ' ρ', lw_J (i + 6) σ' α' κ' ρ' → qr_W (qe L xs vb) 100 qx_e0 lw_Q0 (18, [(3, .int (qz (i + 6))), (2, .ref 86), (1, .ref 16), (0, .ref 0)], [], qw σ' α' κ' ρ', 109, 19340)) : qr_W (qe L xs vb) 100 qx_e0 lw_Q0 (1238, [(3, .int (qz i)), (2, .ref 86), (1, .ref 16), (0, .ref 0)], [], qw σ α κ ρ, 109, 19340) := by
  obtain ⟨hI, hj0, hj1, hj2, hZ, hR, hK, hT, hF, hP, hH, hD, hN, hB, hC, hS, hW⟩ := hJ
  refine qr_aload_n 1239 (qf_17 (by decide) rfl) rfl rfl ?_
  refine qr_aload_n 1240 (qf_17 (by decide) rfl) rfl rfl ?_
  refine qr_iload_n 1241 (qf_17 (by decide) rfl) rfl rfl ?_
  refine qr_iconst 1242 (qf_17 (by decide) rfl) rfl ?_
  refine qr_iadd 1243 (qf_17 (by decide) rfl) rfl ?_
  refine qr_iaload 1244 (qf_17 (by decide) rfl) rfl (by omega) (by omega) rfl ?_
  refine qy_v (xs ((i + 1) : Int).toNat) rfl ?_
  refine qr_i2l 1245 (qf_17 (by decide) rfl) (rx _) rfl ?_
  refine qr_bipush 1247 (qf_17 (by decide) rfl) (by decide) rfl ?_
  refine qr_lshl 1248 (qf_17 (by decide) rfl) rfl ?_
  refine qr_aload_n 1249 (qf_17 (by decide) rfl) rfl rfl ?_
  refine qr_iload_n 1250 (qf_17 (by decide) rfl) rfl rfl ?_
  refine qr_iconst 1251 (qf_17 (by decide) rfl) rfl ?_
  refine qr_iadd 1252 (qf_17 (by decide) rfl) rfl ?_
  refine qr_iaload 1253 (qf_17 (by decide) rfl) rfl (by omega) (by omega) rfl ?_
  refine qy_v (xs ((i + 2) : Int).toNat) rfl ?_
  refine qr_i2l 1254 (qf_17 (by decide) rfl) (rx _) rfl ?_
  refine qr_ldc2 4294967295 1257 (qf_17 (by decide) rfl) (by decide) rfl ?_
  refine qr_land 1258 (qf_17 (by decide) rfl) rfl ?_
  refine qr_lor 1259 (qf_17 (by decide) rfl) rfl ?_
  refine qr_aload_n 1260 (qf_17 (by decide) rfl) rfl rfl ?_
  refine qr_iload_n 1261 (qf_17 (by decide) rfl) rfl rfl ?_
  refine qr_iconst 1262 (qf_18 (by decide) rfl) rfl ?_
  refine qr_iadd 1263 (qf_18 (by decide) rfl) rfl ?_
  refine qr_iaload 1264 (qf_18 (by decide) rfl) rfl (by omega) (by omega) rfl ?_
  refine qy_v (xs ((i + 3) : Int).toNat) rfl ?_
  refine qr_aload_n 1265 (qf_18 (by decide) rfl) rfl rfl ?_
  refine qr_iload_n 1266 (qf_18 (by decide) rfl) rfl rfl ?_
  refine qr_iconst 1267 (qf_18 (by decide) rfl) rfl ?_
  refine qr_iadd 1268 (qf_18 (by decide) rfl) rfl ?_
  refine qr_iaload 1269 (qf_18 (by decide) rfl) rfl (by omega) (by omega) rfl ?_
  refine qy_v (xs ((i + 4) : Int).toNat) rfl ?_
  obtain ⟨hdk, ⟨f0, g0, ha0, hb0, he0⟩, ⟨f1, g1, ha1, hb1, he1⟩⟩ := id hC
  refine qr_call 1272 109 19340 (qf_18 (by decide) rfl) rfl (Nat.le_of_ble_eq_true rfl) (Nat.le_of_ble_eq_true rfl) rfl rfl (sf_120_16x (d := 92) hI (ql_rng _) (rx _) (rx _) ha0 (qrr_zp hI hP) hN.2.2.1 hN.2.1 (fun u hu => by rw [hF.2.2.2.2.1]; exact hZ u (by have hq := hR.2.1; omega)) hS.1 hS.2 (by omega)) ?_
  rintro _ _ ⟨σ1, α1, rfl, hI1, hG1, hw1_0, v1, rfl, hv1, hx1_0, hx1_1, hx1_2, hx1_3⟩
  have k1_16_15 : σ1 16 15 = σ 16 15 := hG1.1 16 15 (by decide)
  have k1_86_4 : σ1 86 4 = σ 86 4 := hG1.1 86 4 (by decide)
  have k1_86_5 : σ1 86 5 = σ 86 5 := hG1.1 86 5 (by decide)
  have k1_86_11 : σ1 86 11 = σ 86 11 := hG1.1 86 11 (by decide)
  have k1_86_32 : σ1 86 32 = σ 86 32 := hG1.1 86 32 (by decide)
  have hR_1 := qR_fr hG1 (by decide) (by decide) hR
  have hK_1 := qR2_fr hG1 (by decide) (by decide) hK
  have hT_1 := qTp_fr hG1 (by decide) hT
  have hF_1 := qRF_fr hG1 (by decide) (by decide) hF
  have hP_1 := qRP_fr hG1 (by decide) (by decide) hP
  have hH_1 := qRH_fr hG1 (by decide) (by decide) hH
  have hD_1 := qRL_fr hG1 (by decide) (by decide) hD
  have hB_1 := qRT_fr hG1 (by decide) (by decide) hB
  have hC_1 := qRC_fr hG1 (by decide) (by decide) (by decide) (by decide) hC
  have hW_1 := qRS_fr hG1 (by decide) (by decide) hW
  have hZ_1 := qPZ_fr hG1 (by decide) (by decide) hZ
  have hS_1 : qSt σ1 α1 := ⟨hx1_1, hx1_2⟩
  have n1_17_5 : σ1 17 5 = σ 17 5 := hG1.1 17 5 (by decide)
  have n1_58_10 : σ1 58 10 = σ 58 10 := hG1.1 58 10 (by decide)
  have n1_86_10 : σ1 86 10 = σ 86 10 := hG1.1 86 10 (by decide)
  have n1_86_22 : σ1 86 22 = σ 86 22 := hG1.1 86 22 (by decide)
  have n1_86_29 : σ1 86 29 = σ 86 29 := hG1.1 86 29 (by decide)
  have n1_86_41 : σ1 86 41 = σ 86 41 := hG1.1 86 41 (by decide)
  have hN_1 : qRN σ1 α1 := by have hn := hN; unfold qRN at hn ⊢; omega
  show qr_W (qe L xs vb) 100 qx_e0 lw_Q0 (1272, [(3, .int (qz i)), (2, .ref 86), (1, .ref 16), (0, .ref 0)], [.long (ql v1)], qw σ1 α1 κ ρ, 109, 19340)
  refine qr_aload_n 1273 (qf_18 (by decide) rfl) rfl rfl ?_
  refine qr_aload_n 1274 (qf_18 (by decide) rfl) rfl rfl ?_
  refine qr_iload_n 1275 (qf_18 (by decide) rfl) rfl rfl ?_
  refine qr_iconst 1276 (qf_18 (by decide) rfl) rfl ?_
  refine qr_iadd 1277 (qf_18 (by decide) rfl) rfl ?_
  refine qr_iaload 1278 (qf_18 (by decide) rfl) rfl (by omega) (by omega) rfl ?_
  refine qy_v (xs ((i + 1) : Int).toNat) rfl ?_
  refine qr_i2l 1279 (qf_18 (by decide) rfl) (rx _) rfl ?_
  refine qr_bipush 1281 (qf_18 (by decide) rfl) (by decide) rfl ?_
  refine qr_lshl 1282 (qf_18 (by decide) rfl) rfl ?_
  refine qr_aload_n 1283 (qf_18 (by decide) rfl) rfl rfl ?_
  refine qr_iload_n 1284 (qf_18 (by decide) rfl) rfl rfl ?_
  refine qr_iconst 1285 (qf_18 (by decide) rfl) rfl ?_
  refine qr_iadd 1286 (qf_18 (by decide) rfl) rfl ?_
  refine qr_iaload 1287 (qf_18 (by decide) rfl) rfl (by omega) (by omega) rfl ?_
  refine qy_v (xs ((i + 2) : Int).toNat) rfl ?_
  refine qr_i2l 1288 (qf_18 (by decide) rfl) (rx _) rfl ?_
  refine qr_ldc2 4294967295 1291 (qf_18 (by decide) rfl) (by decide) rfl ?_
  refine qr_land 1292 (qf_18 (by decide) rfl) rfl ?_
  refine qr_lor 1293 (qf_18 (by decide) rfl) rfl ?_
  refine qr_aload_n 1294 (qf_18 (by decide) rfl) rfl rfl ?_
  refine qr_iload_n 1295 (qf_18 (by decide) rfl) rfl rfl ?_
  refine qr_iconst 1296 (qf_18 (by decide) rfl) rfl ?_
  refine qr_iadd 1297 (qf_18 (by decide) rfl) rfl ?_
  refine qr_iaload 1298 (qf_18 (by decide) rfl) rfl (by omega) (by omega) rfl ?_
  refine qy_v (xs ((i + 3) : Int).toNat) rfl ?_
  refine qr_aload_n 1299 (qf_18 (by decide) rfl) rfl rfl ?_
  refine qr_iload_n 1300 (qf_18 (by decide) rfl) rfl rfl ?_
  refine qr_iconst 1301 (qf_18 (by decide) rfl) rfl ?_
  refine qr_iadd 1302 (qf_18 (by decide) rfl) rfl ?_
  refine qr_iaload 1303 (qf_18 (by decide) rfl) rfl (by omega) (by omega) rfl ?_
  refine qy_v (xs ((i + 4) : Int).toNat) rfl ?_
  refine qr_call 1306 109 19340 (qf_18 (by decide) rfl) rfl (Nat.le_of_ble_eq_true rfl) (Nat.le_of_ble_eq_true rfl) rfl rfl (sf_239_86x (d := 50) hI1 (ql_rng _) (rx _) (rx _) (qPG_fr hG1 (by decide) (by decide) hb0) (qZf_fr hG1 (by decide) (by decide) (qrr_zf hI hF)) (qZk_fr hG1 (by decide) (by decide) (qrr_zk (hI.1 86 24) hR hP hH)) ((hG1.1 86 29 (by decide)).trans hN.2.2.2.2.1) (fun p hp => by rw [hG1.2 92 (by decide)]; exact qrr_w hI hR p hp) ((hG1.1 86 41 (by decide)).trans hN.2.2.2.2.2) ((hG1.1 86 22 (by decide)).trans hN.2.2.2.1) hZ_1) ?_
  rintro _ _ ⟨σ2, α2, rfl, hI2, hG2, hw2_0, hw2_1, v2, rfl, hv2, hx2_0⟩
  have k2_16_15 : σ2 16 15 = σ1 16 15 := hG2.1 16 15 (by decide)
  have k2_58_12 : σ2 58 12 = σ1 58 12 := hG2.1 58 12 (by decide)
  have k2_86_4 : σ2 86 4 = σ1 86 4 := hG2.1 86 4 (by decide)
  have k2_86_5 : σ2 86 5 = σ1 86 5 := hG2.1 86 5 (by decide)
  have k2_86_11 : σ2 86 11 = σ1 86 11 := hG2.1 86 11 (by decide)
  have k2_86_32 : σ2 86 32 = σ1 86 32 := hG2.1 86 32 (by decide)
  have hR_2 := qR_fr hG2 (by decide) (by decide) hR_1
  have hK_2 := qR2_fr hG2 (by decide) (by decide) hK_1
  have hT_2 := qTp_fr hG2 (by decide) hT_1
  have hF_2 := qRF_fr hG2 (by decide) (by decide) hF_1
  have hP_2 := qRP_fr hG2 (by decide) (by decide) hP_1
  have hH_2 := qRH_fr hG2 (by decide) (by decide) hH_1
  have hD_2 := qRL_fr hG2 (by decide) (by decide) hD_1
  have hB_2 := qRT_fr hG2 (by decide) (by decide) hB_1
  have hC_2 := qRC_fr hG2 (by decide) (by decide) (by decide) (by decide) hC_1
  have hS_2 := qSt_fr hG2 (by decide) (by decide) hS_1
  have hW_2 := qRS_fr hG2 (by decide) (by decide) hW_1
  have hZ_2 := qPZ_fr hG2 (by decide) (by decide) hZ_1
  have n2_17_5 : σ2 17 5 = σ1 17 5 := hG2.1 17 5 (by decide)
  have n2_27_6 : σ2 27 6 = σ1 27 6 := hG2.1 27 6 (by decide)
  have n2_58_10 : σ2 58 10 = σ1 58 10 := hG2.1 58 10 (by decide)
  have n2_86_10 : σ2 86 10 = σ1 86 10 := hG2.1 86 10 (by decide)
  have n2_86_29 : σ2 86 29 = σ1 86 29 := hG2.1 86 29 (by decide)
  have hN_2 : qRN σ2 α2 := by have hn := hN_1; unfold qRN at hn ⊢; omega
  have hv := ro_buy he0 hI1 hI2 hZ hI hR hK hF hP hH hD hN hW hG1 hG2 hx1_0 hx1_1 hx1_2 hx1_3 hx2_0
  show qr_W (qe L xs vb) 100 qx_e0 lw_Q0 (1306, [(3, .int (qz i)), (2, .ref 86), (1, .ref 16), (0, .ref 0)], [.long (ql v2), .long (ql v1)], qw σ2 α2 κ ρ, 109, 19340)
  refine qr_lc_eq 2036 1310 (qf_18 (by decide) rfl) (qf_18 (by decide) rfl) rfl rfl (by omega) (by omega) (fun _ => ?_) (fun h => absurd hv h)
  exact lw_end hL hi rx (hk _ _ _ _ ⟨hI2, by omega, by omega, by omega, hZ_2, hR_2, hK_2, hT_2, hF_2, hP_2, hH_2, hD_2, hN_2, hB_2, hC_2, hS_2, hW_2⟩)
set_option maxHeartbeats 4000000 in
set_option maxRecDepth 20000 in
theorem lw_c23 {L : Nat} {xs : Nat → Int} {vb : Bool} {i : Int} {σ α : Nat → Nat → Int} {κ : Nat → Option Nat} {ρ : Nat} (hL : L ≤ 3072) (hi : 0 ≤ i ∧ i + 6 ≤ (L : Int)) (rx : ∀ k, -2147483648 ≤ xs k ∧ xs k ≤ 2147483647) (hJ : lw_J i σ α κ ρ) (hk : ∀ σ' α' κ' ρ', lw_J (i + 6) σ' α' κ' ρ' → qr_W (qe L xs vb) 100 qx_e0 lw_Q0 (18, [(3, .int (qz (i + 6))), (2, .ref 86), (1, .ref 16), (0, .ref 0)], [], qw σ' α' κ' ρ', 109, 19340)) : qr_W (qe L xs vb) 100 qx_e0 lw_Q0 (1312, [(3, .int (qz i)), (2, .ref 86), (1, .ref 16), (0, .ref 0)], [], qw σ α κ ρ, 109, 19340) := by
  obtain ⟨hI, hj0, hj1, hj2, hZ, hR, hK, hT, hF, hP, hH, hD, hN, hB, hC, hS, hW⟩ := hJ
  refine qr_aload_n 1313 (qf_18 (by decide) rfl) rfl rfl ?_
  refine qr_aload_n 1314 (qf_18 (by decide) rfl) rfl rfl ?_
  refine qr_iload_n 1315 (qf_18 (by decide) rfl) rfl rfl ?_
  refine qr_iconst 1316 (qf_18 (by decide) rfl) rfl ?_
  refine qr_iadd 1317 (qf_18 (by decide) rfl) rfl ?_
  refine qr_iaload 1318 (qf_18 (by decide) rfl) rfl (by omega) (by omega) rfl ?_
  refine qy_v (xs ((i + 1) : Int).toNat) rfl ?_
  refine qr_aload_n 1319 (qf_18 (by decide) rfl) rfl rfl ?_
  refine qr_iload_n 1320 (qf_18 (by decide) rfl) rfl rfl ?_
  refine qr_iconst 1321 (qf_19 (by decide) rfl) rfl ?_
  refine qr_iadd 1322 (qf_19 (by decide) rfl) rfl ?_
  refine qr_iaload 1323 (qf_19 (by decide) rfl) rfl (by omega) (by omega) rfl ?_
  refine qy_v (xs ((i + 2) : Int).toNat) rfl ?_
  refine qr_call 1326 109 19340 (qf_19 (by decide) rfl) rfl (Nat.le_of_ble_eq_true rfl) (Nat.le_of_ble_eq_true rfl) rfl rfl (sf_126_16x (d := 98) hI (rx _) (rx _)) ?_
  rintro _ _ ⟨α1, rfl, hI1, hG1, v1, rfl, hv1, hp1⟩
  have hK_1 := qR2_fr hG1 (by decide) (by decide) hK
  have hT_1 := qTp_fr hG1 (by decide) hT
  have hF_1 := qRF_fr hG1 (by decide) (by decide) hF
  have hP_1 := qRP_fr hG1 (by decide) (by decide) hP
  have hH_1 := qRH_fr hG1 (by decide) (by decide) hH
  have hD_1 := qRL_fr hG1 (by decide) (by decide) hD
  have hN_1 := qRN_fr hG1 (by decide) hN
  have hB_1 := qRT_fr hG1 (by decide) (by decide) hB
  have hC_1 := qRC_fr hG1 (by decide) (by decide) (by decide) (by decide) hC
  have hS_1 := qSt_fr hG1 (by decide) (by decide) hS
  have hW_1 := qRS_fr hG1 (by decide) (by decide) hW
  have hZ_1 := qPZ_fr hG1 (by decide) (by decide) hZ
  show qr_W (qe L xs vb) 100 qx_e0 lw_Q0 (1326, [(3, .int (qz i)), (2, .ref 86), (1, .ref 16), (0, .ref 0)], [.int (qz v1)], qw σ α1 κ ρ, 109, 19340)
  refine qr_pop 1327 (qf_19 (by decide) rfl) rfl rfl ?_
  refine qr_aload_n 1328 (qf_19 (by decide) rfl) rfl rfl ?_
  refine qr_aload_n 1329 (qf_19 (by decide) rfl) rfl rfl ?_
  refine qr_iload_n 1330 (qf_19 (by decide) rfl) rfl rfl ?_
  refine qr_iconst 1331 (qf_19 (by decide) rfl) rfl ?_
  refine qr_iadd 1332 (qf_19 (by decide) rfl) rfl ?_
  refine qr_iaload 1333 (qf_19 (by decide) rfl) rfl (by omega) (by omega) rfl ?_
  refine qy_v (xs ((i + 1) : Int).toNat) rfl ?_
  refine qr_aload_n 1334 (qf_19 (by decide) rfl) rfl rfl ?_
  refine qr_iload_n 1335 (qf_19 (by decide) rfl) rfl rfl ?_
  refine qr_iconst 1336 (qf_19 (by decide) rfl) rfl ?_
  refine qr_iadd 1337 (qf_19 (by decide) rfl) rfl ?_
  refine qr_iaload 1338 (qf_19 (by decide) rfl) rfl (by omega) (by omega) rfl ?_
  refine qy_v (xs ((i + 2) : Int).toNat) rfl ?_
  refine qr_call 1341 109 19340 (qf_19 (by decide) rfl) rfl (Nat.le_of_ble_eq_true rfl) (Nat.le_of_ble_eq_true rfl) rfl rfl (sf_241_86x (d := 97) hI1 (rx _) (rx _)) ?_
  rintro _ _ ⟨α2, rfl, hI2, hG2, v2, rfl, hv2, hp2⟩
  have hK_2 := qR2_fr hG2 (by decide) (by decide) hK_1
  have hT_2 := qTp_fr hG2 (by decide) hT_1
  have hF_2 := qRF_fr hG2 (by decide) (by decide) hF_1
  have hP_2 := qRP_fr hG2 (by decide) (by decide) hP_1
  have hH_2 := qRH_fr hG2 (by decide) (by decide) hH_1
  have hD_2 := qRL_fr hG2 (by decide) (by decide) hD_1
  have hN_2 := qRN_fr hG2 (by decide) hN_1
  have hB_2 := qRT_fr hG2 (by decide) (by decide) hB_1
  have hC_2 := qRC_fr hG2 (by decide) (by decide) (by decide) (by decide) hC_1
  have hS_2 := qSt_fr hG2 (by decide) (by decide) hS_1
  have hW_2 := qRS_fr hG2 (by decide) (by decide) hW_1
  have hZ_2 := qPZ_fr hG2 (by decide) (by decide) hZ_1
  obtain ⟨hv, hRb⟩ := rl_road hI hR hG1 hG2 hp1 hp2
  show qr_W (qe L xs vb) 100 qx_e0 lw_Q0 (1341, [(3, .int (qz i)), (2, .ref 86), (1, .ref 16), (0, .ref 0)], [.int (qz v2)], qw σ α2 κ ρ, 109, 19340)
  refine qr_pop 1342 (qf_19 (by decide) rfl) rfl rfl ?_
  refine qr_goto 2036 (qf_19 (by decide) rfl) rfl ?_
  exact lw_end hL hi rx (hk _ _ _ _ ⟨hI2, by omega, by omega, by omega, hZ_2, hRb, hK_2, hT_2, hF_2, hP_2, hH_2, hD_2, hN_2, hB_2, hC_2, hS_2, hW_2⟩)
set_option maxHeartbeats 4000000 in
set_option maxRecDepth 20000 in
theorem lw_c24 {L : Nat} {xs : Nat → Int} {vb : Bool} {i : Int} {σ α : Nat → Nat → Int} {κ : Nat → Option Nat} {ρ : Nat} (hL : L ≤ 3072) (hi : 0 ≤ i ∧ i + 6 ≤ (L : Int)) (rx : ∀ k, -2147483648 ≤ xs k ∧ xs k ≤ 2147483647) (hJ : lw_J i σ α κ ρ) (hk : ∀ σ' α' κ' ρ', lw_J (i + 6) σ' α' κ' ρ' → qr_W (qe L xs vb) 100 qx_e0 lw_Q0 (18, [(3, .int (qz (i + 6))), (2, .ref 86), (1, .ref 16), (0, .ref 0)], [], qw σ' α' κ' ρ', 109, 19340)) : qr_W (qe L xs vb) 100 qx_e0 lw_Q0 (1345, [(3, .int (qz i)), (2, .ref 86), (1, .ref 16), (0, .ref 0)], [], qw σ α κ ρ, 109, 19340) := by
  obtain ⟨hI, hj0, hj1, hj2, hZ, hR, hK, hT, hF, hP, hH, hD, hN, hB, hC, hS, hW⟩ := hJ
  refine qr_aload_n 1346 (qf_19 (by decide) rfl) rfl rfl ?_
  refine qr_aload_n 1347 (qf_19 (by decide) rfl) rfl rfl ?_
  refine qr_iload_n 1348 (qf_19 (by decide) rfl) rfl rfl ?_
  refine qr_iconst 1349 (qf_19 (by decide) rfl) rfl ?_
  refine qr_iadd 1350 (qf_19 (by decide) rfl) rfl ?_
  refine qr_iaload 1351 (qf_19 (by decide) rfl) rfl (by omega) (by omega) rfl ?_
  refine qy_v (xs ((i + 1) : Int).toNat) rfl ?_
  refine qr_i2l 1352 (qf_19 (by decide) rfl) (rx _) rfl ?_
  refine qr_bipush 1354 (qf_19 (by decide) rfl) (by decide) rfl ?_
  refine qr_lshl 1355 (qf_19 (by decide) rfl) rfl ?_
  refine qr_aload_n 1356 (qf_19 (by decide) rfl) rfl rfl ?_
  refine qr_iload_n 1357 (qf_19 (by decide) rfl) rfl rfl ?_
  refine qr_iconst 1358 (qf_19 (by decide) rfl) rfl ?_
  refine qr_iadd 1359 (qf_19 (by decide) rfl) rfl ?_
  refine qr_iaload 1360 (qf_19 (by decide) rfl) rfl (by omega) (by omega) rfl ?_
  refine qy_v (xs ((i + 2) : Int).toNat) rfl ?_
  refine qr_i2l 1361 (qf_19 (by decide) rfl) (rx _) rfl ?_
  refine qr_ldc2 4294967295 1364 (qf_19 (by decide) rfl) (by decide) rfl ?_
  refine qr_land 1365 (qf_19 (by decide) rfl) rfl ?_
  refine qr_lor 1366 (qf_19 (by decide) rfl) rfl ?_
  refine qr_aload_n 1367 (qf_19 (by decide) rfl) rfl rfl ?_
  refine qr_iload_n 1368 (qf_19 (by decide) rfl) rfl rfl ?_
  refine qr_iconst 1369 (qf_19 (by decide) rfl) rfl ?_
  refine qr_iadd 1370 (qf_19 (by decide) rfl) rfl ?_
  refine qr_iaload 1371 (qf_19 (by decide) rfl) rfl (by omega) (by omega) rfl ?_
  refine qy_v (xs ((i + 3) : Int).toNat) rfl ?_
  refine qr_aload_n 1372 (qf_19 (by decide) rfl) rfl rfl ?_
  refine qr_iload_n 1373 (qf_19 (by decide) rfl) rfl rfl ?_
  refine qr_iconst 1374 (qf_19 (by decide) rfl) rfl ?_
  refine qr_iadd 1375 (qf_19 (by decide) rfl) rfl ?_
  refine qr_iaload 1376 (qf_19 (by decide) rfl) rfl (by omega) (by omega) rfl ?_
  refine qy_v (xs ((i + 4) : Int).toNat) rfl ?_
  refine qr_call 1379 109 19340 (qf_19 (by decide) rfl) rfl (Nat.le_of_ble_eq_true rfl) (Nat.le_of_ble_eq_true rfl) rfl rfl (sf_127_16s (d := 90) hI (ql_rng _) (rx _) (rx _) hS (by omega)) ?_
  rintro _ _ ⟨σ1, α1, rfl, hI1, hG1, hw1_0, hw1_1, v1, rfl, hv1, hx1_0⟩
  have k1_16_15 : σ1 16 15 = σ 16 15 := hG1.1 16 15 (by decide)
  have k1_86_4 : σ1 86 4 = σ 86 4 := hG1.1 86 4 (by decide)
  have k1_86_5 : σ1 86 5 = σ 86 5 := hG1.1 86 5 (by decide)
  have k1_86_11 : σ1 86 11 = σ 86 11 := hG1.1 86 11 (by decide)
  have k1_86_32 : σ1 86 32 = σ 86 32 := hG1.1 86 32 (by decide)
  have hR_1 := qR_fr hG1 (by decide) (by decide) hR
  have hK_1 := qR2_fr hG1 (by decide) (by decide) hK
  have hT_1 := qTp_fr hG1 (by decide) hT
  have hF_1 := qRF_fr hG1 (by decide) (by decide) hF
  have hP_1 := qRP_fr hG1 (by decide) (by decide) hP
  have hH_1 := qRH_fr hG1 (by decide) (by decide) hH
  have hD_1 := qRL_fr hG1 (by decide) (by decide) hD
  have hN_1 := qRN_fr hG1 (by decide) hN
  have hB_1 := qRT_fr hG1 (by decide) (by decide) hB
  have hC_1 := qRC_fr hG1 (by decide) (by decide) (by decide) (by decide) hC
  have hW_1 := qRS_fr hG1 (by decide) (by decide) hW
  have hZ_1 := qPZ_fr hG1 (by decide) (by decide) hZ
  show qr_W (qe L xs vb) 100 qx_e0 lw_Q0 (1379, [(3, .int (qz i)), (2, .ref 86), (1, .ref 16), (0, .ref 0)], [.int (qz v1)], qw σ1 α1 κ ρ, 109, 19340)
  refine qr_pop 1380 (qf_19 (by decide) rfl) rfl rfl ?_
  refine qr_aload_n 1381 (qf_19 (by decide) rfl) rfl rfl ?_
  refine qr_aload_n 1382 (qf_20 (by decide) rfl) rfl rfl ?_
  refine qr_iload_n 1383 (qf_20 (by decide) rfl) rfl rfl ?_
  refine qr_iconst 1384 (qf_20 (by decide) rfl) rfl ?_
  refine qr_iadd 1385 (qf_20 (by decide) rfl) rfl ?_
  refine qr_iaload 1386 (qf_20 (by decide) rfl) rfl (by omega) (by omega) rfl ?_
  refine qy_v (xs ((i + 1) : Int).toNat) rfl ?_
  refine qr_i2l 1387 (qf_20 (by decide) rfl) (rx _) rfl ?_
  refine qr_bipush 1389 (qf_20 (by decide) rfl) (by decide) rfl ?_
  refine qr_lshl 1390 (qf_20 (by decide) rfl) rfl ?_
  refine qr_aload_n 1391 (qf_20 (by decide) rfl) rfl rfl ?_
  refine qr_iload_n 1392 (qf_20 (by decide) rfl) rfl rfl ?_
  refine qr_iconst 1393 (qf_20 (by decide) rfl) rfl ?_
  refine qr_iadd 1394 (qf_20 (by decide) rfl) rfl ?_
  refine qr_iaload 1395 (qf_20 (by decide) rfl) rfl (by omega) (by omega) rfl ?_
  refine qy_v (xs ((i + 2) : Int).toNat) rfl ?_
  refine qr_i2l 1396 (qf_20 (by decide) rfl) (rx _) rfl ?_
  refine qr_ldc2 4294967295 1399 (qf_20 (by decide) rfl) (by decide) rfl ?_
  refine qr_land 1400 (qf_20 (by decide) rfl) rfl ?_
  refine qr_lor 1401 (qf_20 (by decide) rfl) rfl ?_
  refine qr_aload_n 1402 (qf_20 (by decide) rfl) rfl rfl ?_
  refine qr_iload_n 1403 (qf_20 (by decide) rfl) rfl rfl ?_
  refine qr_iconst 1404 (qf_20 (by decide) rfl) rfl ?_
  refine qr_iadd 1405 (qf_20 (by decide) rfl) rfl ?_
  refine qr_iaload 1406 (qf_20 (by decide) rfl) rfl (by omega) (by omega) rfl ?_
  refine qy_v (xs ((i + 3) : Int).toNat) rfl ?_
  refine qr_aload_n 1407 (qf_20 (by decide) rfl) rfl rfl ?_
  refine qr_iload_n 1408 (qf_20 (by decide) rfl) rfl rfl ?_
  refine qr_iconst 1409 (qf_20 (by decide) rfl) rfl ?_
  refine qr_iadd 1410 (qf_20 (by decide) rfl) rfl ?_
  refine qr_iaload 1411 (qf_20 (by decide) rfl) rfl (by omega) (by omega) rfl ?_
  refine qy_v (xs ((i + 4) : Int).toNat) rfl ?_
  refine qr_call 1414 109 19340 (qf_20 (by decide) rfl) rfl (Nat.le_of_ble_eq_true rfl) (Nat.le_of_ble_eq_true rfl) rfl rfl (sf_242_86 (d := 87) hI1 (ql_rng _) (rx _) (rx _)) ?_
  rintro _ _ ⟨σ2, α2, rfl, hI2, hG2, v2, rfl, hv2⟩
  have k2_16_15 : σ2 16 15 = σ1 16 15 := hG2.1 16 15 (by decide)
  have k2_58_12 : σ2 58 12 = σ1 58 12 := hG2.1 58 12 (by decide)
  have k2_86_4 : σ2 86 4 = σ1 86 4 := hG2.1 86 4 (by decide)
  have k2_86_5 : σ2 86 5 = σ1 86 5 := hG2.1 86 5 (by decide)
  have k2_86_11 : σ2 86 11 = σ1 86 11 := hG2.1 86 11 (by decide)
  have k2_86_32 : σ2 86 32 = σ1 86 32 := hG2.1 86 32 (by decide)
  have hR_2 := qR_fr hG2 (by decide) (by decide) hR_1
  have hK_2 := qR2_fr hG2 (by decide) (by decide) hK_1
  have hT_2 := qTp_fr hG2 (by decide) hT_1
  have hF_2 := qRF_fr hG2 (by decide) (by decide) hF_1
  have hP_2 := qRP_fr hG2 (by decide) (by decide) hP_1
  have hH_2 := qRH_fr hG2 (by decide) (by decide) hH_1
  have hD_2 := qRL_fr hG2 (by decide) (by decide) hD_1
  have hN_2 := qRN_fr hG2 (by decide) hN_1
  have hB_2 := qRT_fr hG2 (by decide) (by decide) hB_1
  have hC_2 := qRC_fr hG2 (by decide) (by decide) (by decide) (by decide) hC_1
  have hS_2 := qSt_fr hG2 (by decide) (by decide) hx1_0
  have hW_2 := qRS_fr hG2 (by decide) (by decide) hW_1
  have hZ_2 := qPZ_fr hG2 (by decide) (by decide) hZ_1
  show qr_W (qe L xs vb) 100 qx_e0 lw_Q0 (1414, [(3, .int (qz i)), (2, .ref 86), (1, .ref 16), (0, .ref 0)], [.int (qz v2)], qw σ2 α2 κ ρ, 109, 19340)
  refine qr_pop 1415 (qf_20 (by decide) rfl) rfl rfl ?_
  refine qr_goto 2036 (qf_20 (by decide) rfl) rfl ?_
  exact lw_end hL hi rx (hk _ _ _ _ ⟨hI2, by omega, by omega, by omega, hZ_2, hR_2, hK_2, hT_2, hF_2, hP_2, hH_2, hD_2, hN_2, hB_2, hC_2, hS_2, hW_2⟩)
set_option maxHeartbeats 4000000 in
set_option maxRecDepth 20000 in
theorem lw_c25 {L : Nat} {xs : Nat → Int} {vb : Bool} {i : Int} {σ α : Nat → Nat → Int} {κ : Nat → Option Nat} {ρ : Nat} (hL : L ≤ 3072) (hi : 0 ≤ i ∧ i + 6 ≤ (L : Int)) (rx : ∀ k, -2147483648 ≤ xs k ∧ xs k ≤ 2147483647) (hJ : lw_J i σ α κ ρ) (hk : ∀ σ' α' κ' ρ', lw_J (i + 6) σ' α' κ' ρ' → qr_W (qe L xs vb) 100 qx_e0 lw_Q0 (18, [(3, .int (qz (i + 6))), (2, .ref 86), (1, .ref 16), (0, .ref 0)], [], qw σ' α' κ' ρ', 109, 19340)) : qr_W (qe L xs vb) 100 qx_e0 lw_Q0 (1418, [(3, .int (qz i)), (2, .ref 86), (1, .ref 16), (0, .ref 0)], [], qw σ α κ ρ, 109, 19340) := by
  obtain ⟨hI, hj0, hj1, hj2, hZ, hR, hK, hT, hF, hP, hH, hD, hN, hB, hC, hS, hW⟩ := hJ
  refine qr_aload_n 1419 (qf_20 (by decide) rfl) rfl rfl ?_
  refine qr_aload_n 1420 (qf_20 (by decide) rfl) rfl rfl ?_
  refine qr_iload_n 1421 (qf_20 (by decide) rfl) rfl rfl ?_
  refine qr_iconst 1422 (qf_20 (by decide) rfl) rfl ?_
  refine qr_iadd 1423 (qf_20 (by decide) rfl) rfl ?_
  refine qr_iaload 1424 (qf_20 (by decide) rfl) rfl (by omega) (by omega) rfl ?_
  refine qy_v (xs ((i + 1) : Int).toNat) rfl ?_
  refine qr_aload_n 1425 (qf_20 (by decide) rfl) rfl rfl ?_
  refine qr_iload_n 1426 (qf_20 (by decide) rfl) rfl rfl ?_
  refine qr_iconst 1427 (qf_20 (by decide) rfl) rfl ?_
  refine qr_iadd 1428 (qf_20 (by decide) rfl) rfl ?_
  refine qr_iaload 1429 (qf_20 (by decide) rfl) rfl (by omega) (by omega) rfl ?_
  refine qy_v (xs ((i + 2) : Int).toNat) rfl ?_
  refine qr_i2l 1430 (qf_20 (by decide) rfl) (rx _) rfl ?_
  refine qr_bipush 1432 (qf_20 (by decide) rfl) (by decide) rfl ?_
  refine qr_lshl 1433 (qf_20 (by decide) rfl) rfl ?_
  refine qr_aload_n 1434 (qf_20 (by decide) rfl) rfl rfl ?_
  refine qr_iload_n 1435 (qf_20 (by decide) rfl) rfl rfl ?_
  refine qr_iconst 1436 (qf_20 (by decide) rfl) rfl ?_
  refine qr_iadd 1437 (qf_20 (by decide) rfl) rfl ?_
  refine qr_iaload 1438 (qf_20 (by decide) rfl) rfl (by omega) (by omega) rfl ?_
  refine qy_v (xs ((i + 3) : Int).toNat) rfl ?_
  refine qr_i2l 1439 (qf_20 (by decide) rfl) (rx _) rfl ?_
  refine qr_ldc2 4294967295 1442 (qf_21 (by decide) rfl) (by decide) rfl ?_
  refine qr_land 1443 (qf_21 (by decide) rfl) rfl ?_
  refine qr_lor 1444 (qf_21 (by decide) rfl) rfl ?_
  refine qr_aload_n 1445 (qf_21 (by decide) rfl) rfl rfl ?_
  refine qr_iload_n 1446 (qf_21 (by decide) rfl) rfl rfl ?_
  refine qr_iconst 1447 (qf_21 (by decide) rfl) rfl ?_
  refine qr_iadd 1448 (qf_21 (by decide) rfl) rfl ?_
  refine qr_iaload 1449 (qf_21 (by decide) rfl) rfl (by omega) (by omega) rfl ?_
  refine qy_v (xs ((i + 4) : Int).toNat) rfl ?_
  refine qr_aload_n 1450 (qf_21 (by decide) rfl) rfl rfl ?_
  refine qr_iload_n 1451 (qf_21 (by decide) rfl) rfl rfl ?_
  refine qr_iconst 1452 (qf_21 (by decide) rfl) rfl ?_
  refine qr_iadd 1453 (qf_21 (by decide) rfl) rfl ?_
  refine qr_iaload 1454 (qf_21 (by decide) rfl) rfl (by omega) (by omega) rfl ?_
  refine qy_v (xs ((i + 5) : Int).toNat) rfl ?_
  obtain ⟨hdk, ⟨f0, g0, ha0, hb0, he0⟩, ⟨f1, g1, ha1, hb1, he1⟩⟩ := id hC
  refine qr_call 1457 109 19340 (qf_21 (by decide) rfl) rfl (Nat.le_of_ble_eq_true rfl) (Nat.le_of_ble_eq_true rfl) rfl rfl (sf_133_16x (d := 93) hI (rx _) (ql_rng _) (rx _) (rx _) ha0 ha1 (qrr_zp hI hP) hN.2.2.1 hS.1 hS.2 (by omega) hH.1) ?_
  rintro _ _ ⟨σ1, α1, rfl, hI1, hG1, v1, rfl, hv1, hx1_0, hx1_1, hx1_2, hx1_3, hx1_4⟩
  have k1_16_15 : σ1 16 15 = σ 16 15 := hG1.1 16 15 (by decide)
  have k1_86_4 : σ1 86 4 = σ 86 4 := hG1.1 86 4 (by decide)
  have k1_86_5 : σ1 86 5 = σ 86 5 := hG1.1 86 5 (by decide)
  have k1_86_11 : σ1 86 11 = σ 86 11 := hG1.1 86 11 (by decide)
  have k1_86_32 : σ1 86 32 = σ 86 32 := hG1.1 86 32 (by decide)
  have hR_1 := qR_fr hG1 (by decide) (by decide) hR
  have hK_1 := qR2_fr hG1 (by decide) (by decide) hK
  have hT_1 := qTp_fr hG1 (by decide) hT
  have hF_1 := qRF_fr hG1 (by decide) (by decide) hF
  have hP_1 := qRP_fr hG1 (by decide) (by decide) hP
  have hD_1 := qRL_fr hG1 (by decide) (by decide) hD
  have hC_1 := qRC_fr hG1 (by decide) (by decide) (by decide) (by decide) hC
  have hW_1 := qRS_fr hG1 (by decide) (by decide) hW
  have hZ_1 := qPZ_fr hG1 (by decide) (by decide) hZ
  have hS_1 : qSt σ1 α1 := ⟨hx1_1, hx1_2⟩
  show qr_W (qe L xs vb) 100 qx_e0 lw_Q0 (1457, [(3, .int (qz i)), (2, .ref 86), (1, .ref 16), (0, .ref 0)], [.int (qz v1)], qw σ1 α1 κ ρ, 109, 19340)
  refine qr_pop 1458 (qf_21 (by decide) rfl) rfl rfl ?_
  refine qr_aload_n 1459 (qf_21 (by decide) rfl) rfl rfl ?_
  refine qr_aload_n 1460 (qf_21 (by decide) rfl) rfl rfl ?_
  refine qr_iload_n 1461 (qf_21 (by decide) rfl) rfl rfl ?_
  refine qr_iconst 1462 (qf_21 (by decide) rfl) rfl ?_
  refine qr_iadd 1463 (qf_21 (by decide) rfl) rfl ?_
  refine qr_iaload 1464 (qf_21 (by decide) rfl) rfl (by omega) (by omega) rfl ?_
  refine qy_v (xs ((i + 1) : Int).toNat) rfl ?_
  refine qr_aload_n 1465 (qf_21 (by decide) rfl) rfl rfl ?_
  refine qr_iload_n 1466 (qf_21 (by decide) rfl) rfl rfl ?_
  refine qr_iconst 1467 (qf_21 (by decide) rfl) rfl ?_
  refine qr_iadd 1468 (qf_21 (by decide) rfl) rfl ?_
  refine qr_iaload 1469 (qf_21 (by decide) rfl) rfl (by omega) (by omega) rfl ?_
  refine qy_v (xs ((i + 2) : Int).toNat) rfl ?_
  refine qr_i2l 1470 (qf_21 (by decide) rfl) (rx _) rfl ?_
  refine qr_bipush 1472 (qf_21 (by decide) rfl) (by decide) rfl ?_
  refine qr_lshl 1473 (qf_21 (by decide) rfl) rfl ?_
  refine qr_aload_n 1474 (qf_21 (by decide) rfl) rfl rfl ?_
  refine qr_iload_n 1475 (qf_21 (by decide) rfl) rfl rfl ?_
  refine qr_iconst 1476 (qf_21 (by decide) rfl) rfl ?_
  refine qr_iadd 1477 (qf_21 (by decide) rfl) rfl ?_
  refine qr_iaload 1478 (qf_21 (by decide) rfl) rfl (by omega) (by omega) rfl ?_
  refine qy_v (xs ((i + 3) : Int).toNat) rfl ?_
  refine qr_i2l 1479 (qf_21 (by decide) rfl) (rx _) rfl ?_
  refine qr_ldc2 4294967295 1482 (qf_21 (by decide) rfl) (by decide) rfl ?_
  refine qr_land 1483 (qf_21 (by decide) rfl) rfl ?_
  refine qr_lor 1484 (qf_21 (by decide) rfl) rfl ?_
  refine qr_aload_n 1485 (qf_21 (by decide) rfl) rfl rfl ?_
  refine qr_iload_n 1486 (qf_21 (by decide) rfl) rfl rfl ?_
  refine qr_iconst 1487 (qf_21 (by decide) rfl) rfl ?_
  refine qr_iadd 1488 (qf_21 (by decide) rfl) rfl ?_
  refine qr_iaload 1489 (qf_21 (by decide) rfl) rfl (by omega) (by omega) rfl ?_
  refine qy_v (xs ((i + 4) : Int).toNat) rfl ?_
  refine qr_aload_n 1490 (qf_21 (by decide) rfl) rfl rfl ?_
  refine qr_iload_n 1491 (qf_21 (by decide) rfl) rfl rfl ?_
  refine qr_iconst 1492 (qf_21 (by decide) rfl) rfl ?_
  refine qr_iadd 1493 (qf_21 (by decide) rfl) rfl ?_
  refine qr_iaload 1494 (qf_21 (by decide) rfl) rfl (by omega) (by omega) rfl ?_
  refine qy_v (xs ((i + 5) : Int).toNat) rfl ?_
  refine qr_call 1497 109 19340 (qf_21 (by decide) rfl) rfl (Nat.le_of_ble_eq_true rfl) (Nat.le_of_ble_eq_true rfl) rfl rfl (sf_245_86x (d := 50) hI1 (rx _) (ql_rng _) (rx _) (rx _) (qPG_fr hG1 (by decide) (by decide) hb0) (qPG_fr hG1 (by decide) (by decide) hb1) (qZf_fr hG1 (by decide) (by decide) (qrr_zf hI hF)) (qZk_fr hG1 (by decide) (by decide) (qrr_zk (hI.1 86 24) hR hP hH)) ((hG1.1 86 41 (by decide)).trans hN.2.2.2.2.2) ((hG1.1 86 29 (by decide)).trans hN.2.2.2.2.1)) ?_
  rintro _ _ ⟨σ2, α2, rfl, hI2, hG2, v2, rfl, hv2, hx2_0⟩
  have k2_16_15 : σ2 16 15 = σ1 16 15 := hG2.1 16 15 (by decide)
  have k2_58_12 : σ2 58 12 = σ1 58 12 := hG2.1 58 12 (by decide)
  have k2_86_11 : σ2 86 11 = σ1 86 11 := hG2.1 86 11 (by decide)
  have k2_86_32 : σ2 86 32 = σ1 86 32 := hG2.1 86 32 (by decide)
  have hR_2 := qR_fr hG2 (by decide) (by decide) hR_1
  have hK_2 := qR2_fr hG2 (by decide) (by decide) hK_1
  have hT_2 := qTp_fr hG2 (by decide) hT_1
  have hF_2 := qRF_fr hG2 (by decide) (by decide) hF_1
  have hP_2 := qRP_fr hG2 (by decide) (by decide) hP_1
  have hD_2 := qRL_fr hG2 (by decide) (by decide) hD_1
  have hC_2 := qRC_fr hG2 (by decide) (by decide) (by decide) (by decide) hC_1
  have hS_2 := qSt_fr hG2 (by decide) (by decide) hS_1
  have hZ_2 := qPZ_fr hG2 (by decide) (by decide) hZ_1
  obtain ⟨hv, hHb, hNb, hBb⟩ := ro_strike he0 he1 hI hR hK hF hP hH hD hN hB hW hG1 hG2 hx1_0 hx1_1 hx1_2 hx1_3 hx1_4 hx2_0
  have hWb := rs_strike hI1 (by have hq : 0 ≤ σ 86 5 ∧ σ 86 5 ≤ σ 86 4 ∧ σ 86 4 ≤ 40 := hH.1.2.2.1; omega) hG2 hx2_0 hW_1
  show qr_W (qe L xs vb) 100 qx_e0 lw_Q0 (1497, [(3, .int (qz i)), (2, .ref 86), (1, .ref 16), (0, .ref 0)], [.int (qz v2)], qw σ2 α2 κ ρ, 109, 19340)
  refine qr_pop 1498 (qf_21 (by decide) rfl) rfl rfl ?_
  refine qr_goto 2036 (qf_22 (by decide) rfl) rfl ?_
  exact lw_end hL hi rx (hk _ _ _ _ ⟨hI2, by omega, by omega, by omega, hZ_2, hR_2, hK_2, hT_2, hF_2, hP_2, hHb, hD_2, hNb, hBb, hC_2, hS_2, hWb⟩)
set_option maxHeartbeats 4000000 in
set_option maxRecDepth 20000 in
theorem lw_c26 {L : Nat} {xs : Nat → Int} {vb : Bool} {i : Int} {σ α : Nat → Nat → Int} {κ : Nat → Option Nat} {ρ : Nat} (hL : L ≤ 3072) (hi : 0 ≤ i ∧ i + 6 ≤ (L : Int)) (rx : ∀ k, -2147483648 ≤ xs k ∧ xs k ≤ 2147483647) (hJ : lw_J i σ α κ ρ) (hk : ∀ σ' α' κ' ρ', lw_J (i + 6) σ' α' κ' ρ' → qr_W (qe L xs vb) 100 qx_e0 lw_Q0 (18, [(3, .int (qz (i + 6))), (2, .ref 86), (1, .ref 16), (0, .ref 0)], [], qw σ' α' κ' ρ', 109, 19340)) : qr_W (qe L xs vb) 100 qx_e0 lw_Q0 (1501, [(3, .int (qz i)), (2, .ref 86), (1, .ref 16), (0, .ref 0)], [], qw σ α κ ρ, 109, 19340) := by
  obtain ⟨hI, hj0, hj1, hj2, hZ, hR, hK, hT, hF, hP, hH, hD, hN, hB, hC, hS, hW⟩ := hJ
  refine qr_aload_n 1502 (qf_22 (by decide) rfl) rfl rfl ?_
  refine qr_aload_n 1503 (qf_22 (by decide) rfl) rfl rfl ?_
  refine qr_iload_n 1504 (qf_22 (by decide) rfl) rfl rfl ?_
  refine qr_iconst 1505 (qf_22 (by decide) rfl) rfl ?_
  refine qr_iadd 1506 (qf_22 (by decide) rfl) rfl ?_
  refine qr_iaload 1507 (qf_22 (by decide) rfl) rfl (by omega) (by omega) rfl ?_
  refine qy_v (xs ((i + 1) : Int).toNat) rfl ?_
  refine qr_call 1510 109 19340 (qf_22 (by decide) rfl) rfl (Nat.le_of_ble_eq_true rfl) (Nat.le_of_ble_eq_true rfl) rfl rfl (sf_138_16 (d := 99) hI (rx _)) ?_
  rintro _ _ ⟨rfl, v1, rfl, hv1⟩
  show qr_W (qe L xs vb) 100 qx_e0 lw_Q0 (1510, [(3, .int (qz i)), (2, .ref 86), (1, .ref 16), (0, .ref 0)], [.int (qz v1)], qw σ α κ ρ, 109, 19340)
  refine qr_pop 1511 (qf_22 (by decide) rfl) rfl rfl ?_
  refine qr_aload_n 1512 (qf_22 (by decide) rfl) rfl rfl ?_
  refine qr_aload_n 1513 (qf_22 (by decide) rfl) rfl rfl ?_
  refine qr_iload_n 1514 (qf_22 (by decide) rfl) rfl rfl ?_
  refine qr_iconst 1515 (qf_22 (by decide) rfl) rfl ?_
  refine qr_iadd 1516 (qf_22 (by decide) rfl) rfl ?_
  refine qr_iaload 1517 (qf_22 (by decide) rfl) rfl (by omega) (by omega) rfl ?_
  refine qy_v (xs ((i + 1) : Int).toNat) rfl ?_
  refine qr_call 1520 109 19340 (qf_22 (by decide) rfl) rfl (Nat.le_of_ble_eq_true rfl) (Nat.le_of_ble_eq_true rfl) rfl rfl (sf_250_86 (d := 99) hI (rx _)) ?_
  rintro _ _ ⟨rfl, v2, rfl, hv2⟩
  show qr_W (qe L xs vb) 100 qx_e0 lw_Q0 (1520, [(3, .int (qz i)), (2, .ref 86), (1, .ref 16), (0, .ref 0)], [.int (qz v2)], qw σ α κ ρ, 109, 19340)
  refine qr_pop 1521 (qf_22 (by decide) rfl) rfl rfl ?_
  refine qr_goto 2036 (qf_22 (by decide) rfl) rfl ?_
  exact lw_end hL hi rx (hk _ _ _ _ ⟨hI, by omega, by omega, by omega, hZ, hR, hK, hT, hF, hP, hH, hD, hN, hB, hC, hS, hW⟩)
set_option maxHeartbeats 4000000 in
set_option maxRecDepth 20000 in
theorem lw_c27 {L : Nat} {xs : Nat → Int} {vb : Bool} {i : Int} {σ α : Nat → Nat → Int} {κ : Nat → Option Nat} {ρ : Nat} (hL : L ≤ 3072) (hi : 0 ≤ i ∧ i + 6 ≤ (L : Int)) (rx : ∀ k, -2147483648 ≤ xs k ∧ xs k ≤ 2147483647) (hJ : lw_J i σ α κ ρ) (hk : ∀ σ' α' κ' ρ', lw_J (i + 6) σ' α' κ' ρ' → qr_W (qe L xs vb) 100 qx_e0 lw_Q0 (18, [(3, .int (qz (i + 6))), (2, .ref 86), (1, .ref 16), (0, .ref 0)], [], qw σ' α' κ' ρ', 109, 19340)) : qr_W (qe L xs vb) 100 qx_e0 lw_Q0 (1524, [(3, .int (qz i)), (2, .ref 86), (1, .ref 16), (0, .ref 0)], [], qw σ α κ ρ, 109, 19340) := by
  obtain ⟨hI, hj0, hj1, hj2, hZ, hR, hK, hT, hF, hP, hH, hD, hN, hB, hC, hS, hW⟩ := hJ
  refine qr_aload_n 1525 (qf_22 (by decide) rfl) rfl rfl ?_
  refine qr_call 1528 109 19340 (qf_22 (by decide) rfl) rfl (Nat.le_of_ble_eq_true rfl) (Nat.le_of_ble_eq_true rfl) rfl rfl (sf_139_16 (d := 99) hI ) ?_
  rintro _ _ ⟨rfl, v1, rfl, hv1⟩
  show qr_W (qe L xs vb) 100 qx_e0 lw_Q0 (1528, [(3, .int (qz i)), (2, .ref 86), (1, .ref 16), (0, .ref 0)], [.long (ql v1)], qw σ α κ ρ, 109, 19340)
  refine qr_pop2 1529 (qf_22 (by decide) rfl) rfl rfl ?_
  refine qr_aload_n 1530 (qf_22 (by decide) rfl) rfl rfl ?_
  refine qr_call 1533 109 19340 (qf_22 (by decide) rfl) rfl (Nat.le_of_ble_eq_true rfl) (Nat.le_of_ble_eq_true rfl) rfl rfl (sf_251_86 (d := 99) hI ) ?_
  rintro _ _ ⟨rfl, v2, rfl, hv2⟩
  show qr_W (qe L xs vb) 100 qx_e0 lw_Q0 (1533, [(3, .int (qz i)), (2, .ref 86), (1, .ref 16), (0, .ref 0)], [.long (ql v2)], qw σ α κ ρ, 109, 19340)
  refine qr_pop2 1534 (qf_22 (by decide) rfl) rfl rfl ?_
  refine qr_goto 2036 (qf_22 (by decide) rfl) rfl ?_
  exact lw_end hL hi rx (hk _ _ _ _ ⟨hI, by omega, by omega, by omega, hZ, hR, hK, hT, hF, hP, hH, hD, hN, hB, hC, hS, hW⟩)
set_option maxHeartbeats 4000000 in
set_option maxRecDepth 20000 in
theorem lw_c28 {L : Nat} {xs : Nat → Int} {vb : Bool} {i : Int} {σ α : Nat → Nat → Int} {κ : Nat → Option Nat} {ρ : Nat} (hL : L ≤ 3072) (hi : 0 ≤ i ∧ i + 6 ≤ (L : Int)) (rx : ∀ k, -2147483648 ≤ xs k ∧ xs k ≤ 2147483647) (hJ : lw_J i σ α κ ρ) (hk : ∀ σ' α' κ' ρ', lw_J (i + 6) σ' α' κ' ρ' → qr_W (qe L xs vb) 100 qx_e0 lw_Q0 (18, [(3, .int (qz (i + 6))), (2, .ref 86), (1, .ref 16), (0, .ref 0)], [], qw σ' α' κ' ρ', 109, 19340)) : qr_W (qe L xs vb) 100 qx_e0 lw_Q0 (1537, [(3, .int (qz i)), (2, .ref 86), (1, .ref 16), (0, .ref 0)], [], qw σ α κ ρ, 109, 19340) := by
  obtain ⟨hI, hj0, hj1, hj2, hZ, hR, hK, hT, hF, hP, hH, hD, hN, hB, hC, hS, hW⟩ := hJ
  refine qr_aload_n 1538 (qf_22 (by decide) rfl) rfl rfl ?_
  refine qr_aload_n 1539 (qf_22 (by decide) rfl) rfl rfl ?_
  refine qr_iload_n 1540 (qf_22 (by decide) rfl) rfl rfl ?_
  refine qr_iconst 1541 (qf_22 (by decide) rfl) rfl ?_
  refine qr_iadd 1542 (qf_22 (by decide) rfl) rfl ?_
  refine qr_iaload 1543 (qf_22 (by decide) rfl) rfl (by omega) (by omega) rfl ?_
  refine qy_v (xs ((i + 1) : Int).toNat) rfl ?_
  refine qr_i2l 1544 (qf_22 (by decide) rfl) (rx _) rfl ?_
  refine qr_bipush 1546 (qf_22 (by decide) rfl) (by decide) rfl ?_
  refine qr_lshl 1547 (qf_22 (by decide) rfl) rfl ?_
  refine qr_aload_n 1548 (qf_22 (by decide) rfl) rfl rfl ?_
  refine qr_iload_n 1549 (qf_22 (by decide) rfl) rfl rfl ?_
  refine qr_iconst 1550 (qf_22 (by decide) rfl) rfl ?_
  refine qr_iadd 1551 (qf_22 (by decide) rfl) rfl ?_
  refine qr_iaload 1552 (qf_22 (by decide) rfl) rfl (by omega) (by omega) rfl ?_
  refine qy_v (xs ((i + 2) : Int).toNat) rfl ?_
  refine qr_i2l 1553 (qf_22 (by decide) rfl) (rx _) rfl ?_
  refine qr_ldc2 4294967295 1556 (qf_22 (by decide) rfl) (by decide) rfl ?_
  refine qr_land 1557 (qf_22 (by decide) rfl) rfl ?_
  refine qr_lor 1558 (qf_22 (by decide) rfl) rfl ?_
  refine qr_aload_n 1559 (qf_22 (by decide) rfl) rfl rfl ?_
  refine qr_iload_n 1560 (qf_22 (by decide) rfl) rfl rfl ?_
  refine qr_iconst 1561 (qf_22 (by decide) rfl) rfl ?_
  refine qr_iadd 1562 (qf_22 (by decide) rfl) rfl ?_
  refine qr_iaload 1563 (qf_22 (by decide) rfl) rfl (by omega) (by omega) rfl ?_
  refine qy_v (xs ((i + 3) : Int).toNat) rfl ?_
  obtain ⟨hdk, ⟨f0, g0, ha0, hb0, he0⟩, ⟨f1, g1, ha1, hb1, he1⟩⟩ := id hC
  refine qr_call 1566 109 19340 (qf_22 (by decide) rfl) rfl (Nat.le_of_ble_eq_true rfl) (Nat.le_of_ble_eq_true rfl) rfl rfl (sf_140_16x (d := 93) hI (ql_rng _) (rx _) ha0 ha1 (qrr_zp hI hP) hN.2.2.1 hS.1 hS.2 (by omega)) ?_
  rintro _ _ ⟨σ1, α1, rfl, hI1, hG1, v1, rfl, hv1, hx1_0, hx1_1, hx1_2, hx1_3, hx1_4⟩
  have k1_16_15 : σ1 16 15 = σ 16 15 := hG1.1 16 15 (by decide)
  have k1_86_4 : σ1 86 4 = σ 86 4 := hG1.1 86 4 (by decide)
  have k1_86_5 : σ1 86 5 = σ 86 5 := hG1.1 86 5 (by decide)
  have k1_86_11 : σ1 86 11 = σ 86 11 := hG1.1 86 11 (by decide)
  have k1_86_32 : σ1 86 32 = σ 86 32 := hG1.1 86 32 (by decide)
  have hR_1 := qR_fr hG1 (by decide) (by decide) hR
  have hK_1 := qR2_fr hG1 (by decide) (by decide) hK
  have hT_1 := qTp_fr hG1 (by decide) hT
  have hF_1 := qRF_fr hG1 (by decide) (by decide) hF
  have hP_1 := qRP_fr hG1 (by decide) (by decide) hP
  have hH_1 := qRH_fr hG1 (by decide) (by decide) hH
  have hD_1 := qRL_fr hG1 (by decide) (by decide) hD
  have hB_1 := qRT_fr hG1 (by decide) (by decide) hB
  have hC_1 := qRC_fr hG1 (by decide) (by decide) (by decide) (by decide) hC
  have hW_1 := qRS_fr hG1 (by decide) (by decide) hW
  have hZ_1 := qPZ_fr hG1 (by decide) (by decide) hZ
  have hS_1 : qSt σ1 α1 := ⟨hx1_1, hx1_2⟩
  show qr_W (qe L xs vb) 100 qx_e0 lw_Q0 (1566, [(3, .int (qz i)), (2, .ref 86), (1, .ref 16), (0, .ref 0)], [.int (qz v1)], qw σ1 α1 κ ρ, 109, 19340)
  refine qr_pop 1567 (qf_22 (by decide) rfl) rfl rfl ?_
  refine qr_aload_n 1568 (qf_23 (by decide) rfl) rfl rfl ?_
  refine qr_aload_n 1569 (qf_23 (by decide) rfl) rfl rfl ?_
  refine qr_iload_n 1570 (qf_23 (by decide) rfl) rfl rfl ?_
  refine qr_iconst 1571 (qf_23 (by decide) rfl) rfl ?_
  refine qr_iadd 1572 (qf_23 (by decide) rfl) rfl ?_
  refine qr_iaload 1573 (qf_23 (by decide) rfl) rfl (by omega) (by omega) rfl ?_
  refine qy_v (xs ((i + 1) : Int).toNat) rfl ?_
  refine qr_i2l 1574 (qf_23 (by decide) rfl) (rx _) rfl ?_
  refine qr_bipush 1576 (qf_23 (by decide) rfl) (by decide) rfl ?_
  refine qr_lshl 1577 (qf_23 (by decide) rfl) rfl ?_
  refine qr_aload_n 1578 (qf_23 (by decide) rfl) rfl rfl ?_
  refine qr_iload_n 1579 (qf_23 (by decide) rfl) rfl rfl ?_
  refine qr_iconst 1580 (qf_23 (by decide) rfl) rfl ?_
  refine qr_iadd 1581 (qf_23 (by decide) rfl) rfl ?_
  refine qr_iaload 1582 (qf_23 (by decide) rfl) rfl (by omega) (by omega) rfl ?_
  refine qy_v (xs ((i + 2) : Int).toNat) rfl ?_
  refine qr_i2l 1583 (qf_23 (by decide) rfl) (rx _) rfl ?_
  refine qr_ldc2 4294967295 1586 (qf_23 (by decide) rfl) (by decide) rfl ?_
  refine qr_land 1587 (qf_23 (by decide) rfl) rfl ?_
  refine qr_lor 1588 (qf_23 (by decide) rfl) rfl ?_
  refine qr_aload_n 1589 (qf_23 (by decide) rfl) rfl rfl ?_
  refine qr_iload_n 1590 (qf_23 (by decide) rfl) rfl rfl ?_
  refine qr_iconst 1591 (qf_23 (by decide) rfl) rfl ?_
  refine qr_iadd 1592 (qf_23 (by decide) rfl) rfl ?_
  refine qr_iaload 1593 (qf_23 (by decide) rfl) rfl (by omega) (by omega) rfl ?_
  refine qy_v (xs ((i + 3) : Int).toNat) rfl ?_
  refine qr_call 1596 109 19340 (qf_23 (by decide) rfl) rfl (Nat.le_of_ble_eq_true rfl) (Nat.le_of_ble_eq_true rfl) rfl rfl (sf_252_86x (d := 50) hI1 (ql_rng _) (rx _) (qPG_fr hG1 (by decide) (by decide) hb0) (qPG_fr hG1 (by decide) (by decide) hb1) (qZf_fr hG1 (by decide) (by decide) (qrr_zf hI hF)) (qZk_fr hG1 (by decide) (by decide) (qrr_zk (hI.1 86 24) hR hP hH)) (by omega) ((hG1.1 86 41 (by decide)).trans hN.2.2.2.2.2) ((hG1.1 86 29 (by decide)).trans hN.2.2.2.2.1)) ?_
  rintro _ _ ⟨σ2, α2, rfl, hI2, hG2, v2, rfl, hv2, hx2_0, hx2_1, hx2_2, hx2_3, hx2_4, hx2_5, hx2_6⟩
  have k2_16_15 : σ2 16 15 = σ1 16 15 := hG2.1 16 15 (by decide)
  have k2_58_12 : σ2 58 12 = σ1 58 12 := hG2.1 58 12 (by decide)
  have k2_86_4 : σ2 86 4 = σ1 86 4 := hG2.1 86 4 (by decide)
  have k2_86_5 : σ2 86 5 = σ1 86 5 := hG2.1 86 5 (by decide)
  have k2_86_11 : σ2 86 11 = σ1 86 11 := hG2.1 86 11 (by decide)
  have k2_86_32 : σ2 86 32 = σ1 86 32 := hG2.1 86 32 (by decide)
  have hR_2 := qR_fr hG2 (by decide) (by decide) hR_1
  have hK_2 := qR2_fr hG2 (by decide) (by decide) hK_1
  have hT_2 := qTp_fr hG2 (by decide) hT_1
  have hF_2 := qRF_fr hG2 (by decide) (by decide) hF_1
  have hP_2 := qRP_fr hG2 (by decide) (by decide) hP_1
  have hH_2 := qRH_fr hG2 (by decide) (by decide) hH_1
  have hD_2 := qRL_fr hG2 (by decide) (by decide) hD_1
  have hC_2 := qRC_fr hG2 (by decide) (by decide) (by decide) (by decide) hC_1
  have hS_2 := qSt_fr hG2 (by decide) (by decide) hS_1
  have hW_2 := qRS_fr hG2 (by decide) (by decide) hW_1
  have hZ_2 := qPZ_fr hG2 (by decide) (by decide) hZ_1
  obtain ⟨hv, hNb, hBb⟩ := ro_worst he0 he1 hI hR hK hF hP hH hD hN hB hW hG1 hG2 hx1_0 hx1_1 hx1_2 hx1_3 hx1_4 hx2_0 hx2_1 hx2_2 hx2_3 hx2_4 hx2_5 hx2_6
  show qr_W (qe L xs vb) 100 qx_e0 lw_Q0 (1596, [(3, .int (qz i)), (2, .ref 86), (1, .ref 16), (0, .ref 0)], [.int (qz v2)], qw σ2 α2 κ ρ, 109, 19340)
  refine qr_pop 1597 (qf_23 (by decide) rfl) rfl rfl ?_
  refine qr_goto 2036 (qf_23 (by decide) rfl) rfl ?_
  exact lw_end hL hi rx (hk _ _ _ _ ⟨hI2, by omega, by omega, by omega, hZ_2, hR_2, hK_2, hT_2, hF_2, hP_2, hH_2, hD_2, hNb, hBb, hC_2, hS_2, hW_2⟩)
set_option maxHeartbeats 4000000 in
set_option maxRecDepth 20000 in
theorem lw_c29 {L : Nat} {xs : Nat → Int} {vb : Bool} {i : Int} {σ α : Nat → Nat → Int} {κ : Nat → Option Nat} {ρ : Nat} (hL : L ≤ 3072) (hi : 0 ≤ i ∧ i + 6 ≤ (L : Int)) (rx : ∀ k, -2147483648 ≤ xs k ∧ xs k ≤ 2147483647) (hJ : lw_J i σ α κ ρ) (hk : ∀ σ' α' κ' ρ', lw_J (i + 6) σ' α' κ' ρ' → qr_W (qe L xs vb) 100 qx_e0 lw_Q0 (18, [(3, .int (qz (i + 6))), (2, .ref 86), (1, .ref 16), (0, .ref 0)], [], qw σ' α' κ' ρ', 109, 19340)) : qr_W (qe L xs vb) 100 qx_e0 lw_Q0 (1600, [(3, .int (qz i)), (2, .ref 86), (1, .ref 16), (0, .ref 0)], [], qw σ α κ ρ, 109, 19340) := by
  obtain ⟨hI, hj0, hj1, hj2, hZ, hR, hK, hT, hF, hP, hH, hD, hN, hB, hC, hS, hW⟩ := hJ
  refine qr_aload_n 1601 (qf_23 (by decide) rfl) rfl rfl ?_
  refine qr_aload_n 1602 (qf_23 (by decide) rfl) rfl rfl ?_
  refine qr_iload_n 1603 (qf_23 (by decide) rfl) rfl rfl ?_
  refine qr_iconst 1604 (qf_23 (by decide) rfl) rfl ?_
  refine qr_iadd 1605 (qf_23 (by decide) rfl) rfl ?_
  refine qr_iaload 1606 (qf_23 (by decide) rfl) rfl (by omega) (by omega) rfl ?_
  refine qy_v (xs ((i + 1) : Int).toNat) rfl ?_
  refine qr_aload_n 1607 (qf_23 (by decide) rfl) rfl rfl ?_
  refine qr_iload_n 1608 (qf_23 (by decide) rfl) rfl rfl ?_
  refine qr_iconst 1609 (qf_23 (by decide) rfl) rfl ?_
  refine qr_iadd 1610 (qf_23 (by decide) rfl) rfl ?_
  refine qr_iaload 1611 (qf_23 (by decide) rfl) rfl (by omega) (by omega) rfl ?_
  refine qy_v (xs ((i + 2) : Int).toNat) rfl ?_
  refine qr_aload_n 1612 (qf_23 (by decide) rfl) rfl rfl ?_
  refine qr_iload_n 1613 (qf_23 (by decide) rfl) rfl rfl ?_
  refine qr_iconst 1614 (qf_23 (by decide) rfl) rfl ?_
  refine qr_iadd 1615 (qf_23 (by decide) rfl) rfl ?_
  refine qr_iaload 1616 (qf_23 (by decide) rfl) rfl (by omega) (by omega) rfl ?_
  refine qy_v (xs ((i + 3) : Int).toNat) rfl ?_
  refine qr_call 1619 109 19340 (qf_23 (by decide) rfl) rfl (Nat.le_of_ble_eq_true rfl) (Nat.le_of_ble_eq_true rfl) rfl rfl (sf_141_16 (d := 96) hI (rx _) (rx _) (rx _)) ?_
  rintro _ _ ⟨σ1, α1, rfl, hI1, hG1, v1, rfl, hv1⟩
  have k1_16_15 : σ1 16 15 = σ 16 15 := hG1.1 16 15 (by decide)
  have k1_58_12 : σ1 58 12 = σ 58 12 := hG1.1 58 12 (by decide)
  have k1_86_4 : σ1 86 4 = σ 86 4 := hG1.1 86 4 (by decide)
  have k1_86_5 : σ1 86 5 = σ 86 5 := hG1.1 86 5 (by decide)
  have k1_86_11 : σ1 86 11 = σ 86 11 := hG1.1 86 11 (by decide)
  have k1_86_32 : σ1 86 32 = σ 86 32 := hG1.1 86 32 (by decide)
  have hR_1 := qR_fr hG1 (by decide) (by decide) hR
  have hK_1 := qR2_fr hG1 (by decide) (by decide) hK
  have hT_1 := qTp_fr hG1 (by decide) hT
  have hF_1 := qRF_fr hG1 (by decide) (by decide) hF
  have hP_1 := qRP_fr hG1 (by decide) (by decide) hP
  have hH_1 := qRH_fr hG1 (by decide) (by decide) hH
  have hD_1 := qRL_fr hG1 (by decide) (by decide) hD
  have hN_1 := qRN_fr hG1 (by decide) hN
  have hB_1 := qRT_fr hG1 (by decide) (by decide) hB
  have hC_1 := qRC_fr hG1 (by decide) (by decide) (by decide) (by decide) hC
  have hS_1 := qSt_fr hG1 (by decide) (by decide) hS
  have hW_1 := qRS_fr hG1 (by decide) (by decide) hW
  have hZ_1 := qPZ_fr hG1 (by decide) (by decide) hZ
  show qr_W (qe L xs vb) 100 qx_e0 lw_Q0 (1619, [(3, .int (qz i)), (2, .ref 86), (1, .ref 16), (0, .ref 0)], [.int (qz v1)], qw σ1 α1 κ ρ, 109, 19340)
  refine qr_pop 1620 (qf_23 (by decide) rfl) rfl rfl ?_
  refine qr_aload_n 1621 (qf_23 (by decide) rfl) rfl rfl ?_
  refine qr_aload_n 1622 (qf_23 (by decide) rfl) rfl rfl ?_
  refine qr_iload_n 1623 (qf_23 (by decide) rfl) rfl rfl ?_
  refine qr_iconst 1624 (qf_23 (by decide) rfl) rfl ?_
  refine qr_iadd 1625 (qf_23 (by decide) rfl) rfl ?_
  refine qr_iaload 1626 (qf_23 (by decide) rfl) rfl (by omega) (by omega) rfl ?_
  refine qy_v (xs ((i + 1) : Int).toNat) rfl ?_
  refine qr_aload_n 1627 (qf_24 (by decide) rfl) rfl rfl ?_
  refine qr_iload_n 1628 (qf_24 (by decide) rfl) rfl rfl ?_
  refine qr_iconst 1629 (qf_24 (by decide) rfl) rfl ?_
  refine qr_iadd 1630 (qf_24 (by decide) rfl) rfl ?_
  refine qr_iaload 1631 (qf_24 (by decide) rfl) rfl (by omega) (by omega) rfl ?_
  refine qy_v (xs ((i + 2) : Int).toNat) rfl ?_
  refine qr_aload_n 1632 (qf_24 (by decide) rfl) rfl rfl ?_
  refine qr_iload_n 1633 (qf_24 (by decide) rfl) rfl rfl ?_
  refine qr_iconst 1634 (qf_24 (by decide) rfl) rfl ?_
  refine qr_iadd 1635 (qf_24 (by decide) rfl) rfl ?_
  refine qr_iaload 1636 (qf_24 (by decide) rfl) rfl (by omega) (by omega) rfl ?_
  refine qy_v (xs ((i + 3) : Int).toNat) rfl ?_
  refine qr_call 1639 109 19340 (qf_24 (by decide) rfl) rfl (Nat.le_of_ble_eq_true rfl) (Nat.le_of_ble_eq_true rfl) rfl rfl (sf_254_86x (d := 94) hI1 (rx _) (rx _) (rx _) (by omega)) ?_
  rintro _ _ ⟨σ2, α2, rfl, hI2, hG2, hw2_0, v2, rfl, hv2, hx2_0⟩
  have k2_16_15 : σ2 16 15 = σ1 16 15 := hG2.1 16 15 (by decide)
  have k2_58_12 : σ2 58 12 = σ1 58 12 := hG2.1 58 12 (by decide)
  have k2_86_4 : σ2 86 4 = σ1 86 4 := hG2.1 86 4 (by decide)
  have k2_86_5 : σ2 86 5 = σ1 86 5 := hG2.1 86 5 (by decide)
  have k2_86_32 : σ2 86 32 = σ1 86 32 := hG2.1 86 32 (by decide)
  have hR_2 := qR_fr hG2 (by decide) (by decide) hR_1
  have hT_2 := qTp_fr hG2 (by decide) hT_1
  have hF_2 := qRF_fr hG2 (by decide) (by decide) hF_1
  have hP_2 := qRP_fr hG2 (by decide) (by decide) hP_1
  have hH_2 := qRH_fr hG2 (by decide) (by decide) hH_1
  have hD_2 := qRL_fr hG2 (by decide) (by decide) hD_1
  have hN_2 := qRN_fr hG2 (by decide) hN_1
  have hB_2 := qRT_fr hG2 (by decide) (by decide) hB_1
  have hC_2 := qRC_fr hG2 (by decide) (by decide) (by decide) (by decide) hC_1
  have hS_2 := qSt_fr hG2 (by decide) (by decide) hS_1
  have hW_2 := qRS_fr hG2 (by decide) (by decide) hW_1
  have hZ_2 := qPZ_fr hG2 (by decide) (by decide) hZ_1
  have hK_2 := qR2_wd hG2 (by decide) (by decide) hw2_0 hx2_0 hK_1
  show qr_W (qe L xs vb) 100 qx_e0 lw_Q0 (1639, [(3, .int (qz i)), (2, .ref 86), (1, .ref 16), (0, .ref 0)], [.int (qz v2)], qw σ2 α2 κ ρ, 109, 19340)
  refine qr_pop 1640 (qf_24 (by decide) rfl) rfl rfl ?_
  refine qr_goto 2036 (qf_24 (by decide) rfl) rfl ?_
  exact lw_end hL hi rx (hk _ _ _ _ ⟨hI2, by omega, by omega, by omega, hZ_2, hR_2, hK_2, hT_2, hF_2, hP_2, hH_2, hD_2, hN_2, hB_2, hC_2, hS_2, hW_2⟩)
set_option maxHeartbeats 4000000 in
set_option maxRecDepth 20000 in
theorem lw_c30 {L : Nat} {xs : Nat → Int} {vb : Bool} {i : Int} {σ α : Nat → Nat → Int} {κ : Nat → Option Nat} {ρ : Nat} (hL : L ≤ 3072) (hi : 0 ≤ i ∧ i + 6 ≤ (L : Int)) (rx : ∀ k, -2147483648 ≤ xs k ∧ xs k ≤ 2147483647) (hJ : lw_J i σ α κ ρ) (hk : ∀ σ' α' κ' ρ', lw_J (i + 6) σ' α' κ' ρ' → qr_W (qe L xs vb) 100 qx_e0 lw_Q0 (18, [(3, .int (qz (i + 6))), (2, .ref 86), (1, .ref 16), (0, .ref 0)], [], qw σ' α' κ' ρ', 109, 19340)) : qr_W (qe L xs vb) 100 qx_e0 lw_Q0 (1643, [(3, .int (qz i)), (2, .ref 86), (1, .ref 16), (0, .ref 0)], [], qw σ α κ ρ, 109, 19340) := by
  obtain ⟨hI, hj0, hj1, hj2, hZ, hR, hK, hT, hF, hP, hH, hD, hN, hB, hC, hS, hW⟩ := hJ
  refine qr_aload_n 1644 (qf_24 (by decide) rfl) rfl rfl ?_
  refine qr_call 1647 109 19340 (qf_24 (by decide) rfl) rfl (Nat.le_of_ble_eq_true rfl) (Nat.le_of_ble_eq_true rfl) rfl rfl (sf_144_16x (d := 97) hI  hH.1 hH.2) ?_
  rintro _ _ ⟨σ1, α1, rfl, hI1, hG1, v1, rfl, hv1, hx1_0⟩
  have k1_16_15 : σ1 16 15 = σ 16 15 := hG1.1 16 15 (by decide)
  have k1_58_12 : σ1 58 12 = σ 58 12 := hG1.1 58 12 (by decide)
  have k1_86_4 : σ1 86 4 = σ 86 4 := hG1.1 86 4 (by decide)
  have k1_86_5 : σ1 86 5 = σ 86 5 := hG1.1 86 5 (by decide)
  have k1_86_11 : σ1 86 11 = σ 86 11 := hG1.1 86 11 (by decide)
  have k1_86_32 : σ1 86 32 = σ 86 32 := hG1.1 86 32 (by decide)
  have hR_1 := qR_fr hG1 (by decide) (by decide) hR
  have hK_1 := qR2_fr hG1 (by decide) (by decide) hK
  have hT_1 := qTp_fr hG1 (by decide) hT
  have hF_1 := qRF_fr hG1 (by decide) (by decide) hF
  have hP_1 := qRP_fr hG1 (by decide) (by decide) hP
  have hD_1 := qRL_fr hG1 (by decide) (by decide) hD
  have hN_1 := qRN_fr hG1 (by decide) hN
  have hB_1 := qRT_fr hG1 (by decide) (by decide) hB
  have hC_1 := qRC_fr hG1 (by decide) (by decide) (by decide) (by decide) hC
  have hS_1 := qSt_fr hG1 (by decide) (by decide) hS
  have hW_1 := qRS_fr hG1 (by decide) (by decide) hW
  have hZ_1 := qPZ_fr hG1 (by decide) (by decide) hZ
  show qr_W (qe L xs vb) 100 qx_e0 lw_Q0 (1647, [(3, .int (qz i)), (2, .ref 86), (1, .ref 16), (0, .ref 0)], [.int (qz v1)], qw σ1 α1 κ ρ, 109, 19340)
  refine qr_pop 1648 (qf_24 (by decide) rfl) rfl rfl ?_
  refine qr_aload_n 1649 (qf_24 (by decide) rfl) rfl rfl ?_
  refine qr_call 1652 109 19340 (qf_24 (by decide) rfl) rfl (Nat.le_of_ble_eq_true rfl) (Nat.le_of_ble_eq_true rfl) rfl rfl (sf_172_86x (d := 99) hI1 ) ?_
  rintro _ _ ⟨σ2, α2, rfl, hI2, hG2, v2, rfl, hv2, hx2_0⟩
  have k2_16_15 : σ2 16 15 = σ1 16 15 := hG2.1 16 15 (by decide)
  have k2_58_12 : σ2 58 12 = σ1 58 12 := hG2.1 58 12 (by decide)
  have k2_86_4 : σ2 86 4 = σ1 86 4 := hG2.1 86 4 (by decide)
  have k2_86_11 : σ2 86 11 = σ1 86 11 := hG2.1 86 11 (by decide)
  have k2_86_32 : σ2 86 32 = σ1 86 32 := hG2.1 86 32 (by decide)
  have hR_2 := qR_fr hG2 (by decide) (by decide) hR_1
  have hK_2 := qR2_fr hG2 (by decide) (by decide) hK_1
  have hT_2 := qTp_fr hG2 (by decide) hT_1
  have hF_2 := qRF_fr hG2 (by decide) (by decide) hF_1
  have hP_2 := qRP_fr hG2 (by decide) (by decide) hP_1
  have hD_2 := qRL_fr hG2 (by decide) (by decide) hD_1
  have hN_2 := qRN_fr hG2 (by decide) hN_1
  have hB_2 := qRT_fr hG2 (by decide) (by decide) hB_1
  have hC_2 := qRC_fr hG2 (by decide) (by decide) (by decide) (by decide) hC_1
  have hS_2 := qSt_fr hG2 (by decide) (by decide) hS_1
  have hZ_2 := qPZ_fr hG2 (by decide) (by decide) hZ_1
  obtain ⟨hv, hHb⟩ := ro_undo hI hR hH hG1 hG2 hx1_0 hx2_0
  have hWb := rs_undo hI1 (by have hq : 0 ≤ σ 86 5 ∧ σ 86 5 ≤ σ 86 4 ∧ σ 86 4 ≤ 40 := hH.1.2.2.1; omega) hG2 hx2_0 hW_1
  show qr_W (qe L xs vb) 100 qx_e0 lw_Q0 (1652, [(3, .int (qz i)), (2, .ref 86), (1, .ref 16), (0, .ref 0)], [.int (qz v2)], qw σ2 α2 κ ρ, 109, 19340)
  refine qr_pop 1653 (qf_24 (by decide) rfl) rfl rfl ?_
  refine qr_goto 2036 (qf_24 (by decide) rfl) rfl ?_
  exact lw_end hL hi rx (hk _ _ _ _ ⟨hI2, by omega, by omega, by omega, hZ_2, hR_2, hK_2, hT_2, hF_2, hP_2, hHb, hD_2, hN_2, hB_2, hC_2, hS_2, hWb⟩)
set_option maxHeartbeats 4000000 in
set_option maxRecDepth 20000 in
theorem lw_c31 {L : Nat} {xs : Nat → Int} {vb : Bool} {i : Int} {σ α : Nat → Nat → Int} {κ : Nat → Option Nat} {ρ : Nat} (hL : L ≤ 3072) (hi : 0 ≤ i ∧ i + 6 ≤ (L : Int)) (rx : ∀ k, -2147483648 ≤ xs k ∧ xs k ≤ 2147483647) (hJ : lw_J i σ α κ ρ) (hk : ∀ σ' α' κ' ρ', lw_J (i + 6) σ' α' κ' ρ' → qr_W (qe L xs vb) 100 qx_e0 lw_Q0 (18, [(3, .int (qz (i + 6))), (2, .ref 86), (1, .ref 16), (0, .ref 0)], [], qw σ' α' κ' ρ', 109, 19340)) : qr_W (qe L xs vb) 100 qx_e0 lw_Q0 (1656, [(3, .int (qz i)), (2, .ref 86), (1, .ref 16), (0, .ref 0)], [], qw σ α κ ρ, 109, 19340) := by
  obtain ⟨hI, hj0, hj1, hj2, hZ, hR, hK, hT, hF, hP, hH, hD, hN, hB, hC, hS, hW⟩ := hJ
  refine qr_aload_n 1657 (qf_24 (by decide) rfl) rfl rfl ?_
  refine qr_call 1660 109 19340 (qf_24 (by decide) rfl) rfl (Nat.le_of_ble_eq_true rfl) (Nat.le_of_ble_eq_true rfl) rfl rfl (sf_146_16x (d := 97) hI  hH.1 hH.2) ?_
  rintro _ _ ⟨σ1, α1, rfl, hI1, hG1, v1, rfl, hv1, hx1_0⟩
  have k1_16_15 : σ1 16 15 = σ 16 15 := hG1.1 16 15 (by decide)
  have k1_58_12 : σ1 58 12 = σ 58 12 := hG1.1 58 12 (by decide)
  have k1_86_4 : σ1 86 4 = σ 86 4 := hG1.1 86 4 (by decide)
  have k1_86_5 : σ1 86 5 = σ 86 5 := hG1.1 86 5 (by decide)
  have k1_86_11 : σ1 86 11 = σ 86 11 := hG1.1 86 11 (by decide)
  have k1_86_32 : σ1 86 32 = σ 86 32 := hG1.1 86 32 (by decide)
  have hR_1 := qR_fr hG1 (by decide) (by decide) hR
  have hK_1 := qR2_fr hG1 (by decide) (by decide) hK
  have hT_1 := qTp_fr hG1 (by decide) hT
  have hF_1 := qRF_fr hG1 (by decide) (by decide) hF
  have hP_1 := qRP_fr hG1 (by decide) (by decide) hP
  have hD_1 := qRL_fr hG1 (by decide) (by decide) hD
  have hN_1 := qRN_fr hG1 (by decide) hN
  have hB_1 := qRT_fr hG1 (by decide) (by decide) hB
  have hC_1 := qRC_fr hG1 (by decide) (by decide) (by decide) (by decide) hC
  have hS_1 := qSt_fr hG1 (by decide) (by decide) hS
  have hW_1 := qRS_fr hG1 (by decide) (by decide) hW
  have hZ_1 := qPZ_fr hG1 (by decide) (by decide) hZ
  show qr_W (qe L xs vb) 100 qx_e0 lw_Q0 (1660, [(3, .int (qz i)), (2, .ref 86), (1, .ref 16), (0, .ref 0)], [.int (qz v1)], qw σ1 α1 κ ρ, 109, 19340)
  refine qr_pop 1661 (qf_24 (by decide) rfl) rfl rfl ?_
  refine qr_aload_n 1662 (qf_24 (by decide) rfl) rfl rfl ?_
  refine qr_call 1665 109 19340 (qf_24 (by decide) rfl) rfl (Nat.le_of_ble_eq_true rfl) (Nat.le_of_ble_eq_true rfl) rfl rfl (sf_173_86x (d := 99) hI1 ) ?_
  rintro _ _ ⟨σ2, α2, rfl, hI2, hG2, v2, rfl, hv2, hx2_0⟩
  have k2_16_15 : σ2 16 15 = σ1 16 15 := hG2.1 16 15 (by decide)
  have k2_58_12 : σ2 58 12 = σ1 58 12 := hG2.1 58 12 (by decide)
  have k2_86_4 : σ2 86 4 = σ1 86 4 := hG2.1 86 4 (by decide)
  have k2_86_11 : σ2 86 11 = σ1 86 11 := hG2.1 86 11 (by decide)
  have k2_86_32 : σ2 86 32 = σ1 86 32 := hG2.1 86 32 (by decide)
  have hR_2 := qR_fr hG2 (by decide) (by decide) hR_1
  have hK_2 := qR2_fr hG2 (by decide) (by decide) hK_1
  have hT_2 := qTp_fr hG2 (by decide) hT_1
  have hF_2 := qRF_fr hG2 (by decide) (by decide) hF_1
  have hP_2 := qRP_fr hG2 (by decide) (by decide) hP_1
  have hD_2 := qRL_fr hG2 (by decide) (by decide) hD_1
  have hN_2 := qRN_fr hG2 (by decide) hN_1
  have hB_2 := qRT_fr hG2 (by decide) (by decide) hB_1
  have hC_2 := qRC_fr hG2 (by decide) (by decide) (by decide) (by decide) hC_1
  have hS_2 := qSt_fr hG2 (by decide) (by decide) hS_1
  have hZ_2 := qPZ_fr hG2 (by decide) (by decide) hZ_1
  obtain ⟨hv, hHb⟩ := ro_redo hI hR hH hG1 hG2 hx1_0 hx2_0
  have hWb := rs_redo hI1 (by have hq : 0 ≤ σ 86 5 ∧ σ 86 5 ≤ σ 86 4 ∧ σ 86 4 ≤ 40 := hH.1.2.2.1; omega) hG2 hx2_0 hW_1
  show qr_W (qe L xs vb) 100 qx_e0 lw_Q0 (1665, [(3, .int (qz i)), (2, .ref 86), (1, .ref 16), (0, .ref 0)], [.int (qz v2)], qw σ2 α2 κ ρ, 109, 19340)
  refine qr_pop 1666 (qf_24 (by decide) rfl) rfl rfl ?_
  refine qr_goto 2036 (qf_24 (by decide) rfl) rfl ?_
  exact lw_end hL hi rx (hk _ _ _ _ ⟨hI2, by omega, by omega, by omega, hZ_2, hR_2, hK_2, hT_2, hF_2, hP_2, hHb, hD_2, hN_2, hB_2, hC_2, hS_2, hWb⟩)
set_option maxHeartbeats 4000000 in
set_option maxRecDepth 20000 in
theorem lw_c32 {L : Nat} {xs : Nat → Int} {vb : Bool} {i : Int} {σ α : Nat → Nat → Int} {κ : Nat → Option Nat} {ρ : Nat} (hL : L ≤ 3072) (hi : 0 ≤ i ∧ i + 6 ≤ (L : Int)) (rx : ∀ k, -2147483648 ≤ xs k ∧ xs k ≤ 2147483647) (hJ : lw_J i σ α κ ρ) (hk : ∀ σ' α' κ' ρ', lw_J (i + 6) σ' α' κ' ρ' → qr_W (qe L xs vb) 100 qx_e0 lw_Q0 (18, [(3, .int (qz (i + 6))), (2, .ref 86), (1, .ref 16), (0, .ref 0)], [], qw σ' α' κ' ρ', 109, 19340)) : qr_W (qe L xs vb) 100 qx_e0 lw_Q0 (1669, [(3, .int (qz i)), (2, .ref 86), (1, .ref 16), (0, .ref 0)], [], qw σ α κ ρ, 109, 19340) := by
  obtain ⟨hI, hj0, hj1, hj2, hZ, hR, hK, hT, hF, hP, hH, hD, hN, hB, hC, hS, hW⟩ := hJ
  refine qr_aload_n 1670 (qf_24 (by decide) rfl) rfl rfl ?_
  refine qr_aload_n 1671 (qf_24 (by decide) rfl) rfl rfl ?_
  refine qr_iload_n 1672 (qf_24 (by decide) rfl) rfl rfl ?_
  refine qr_iconst 1673 (qf_24 (by decide) rfl) rfl ?_
  refine qr_iadd 1674 (qf_24 (by decide) rfl) rfl ?_
  refine qr_iaload 1675 (qf_24 (by decide) rfl) rfl (by omega) (by omega) rfl ?_
  refine qy_v (xs ((i + 1) : Int).toNat) rfl ?_
  refine qr_aload_n 1676 (qf_24 (by decide) rfl) rfl rfl ?_
  refine qr_iload_n 1677 (qf_24 (by decide) rfl) rfl rfl ?_
  refine qr_iconst 1678 (qf_24 (by decide) rfl) rfl ?_
  refine qr_iadd 1679 (qf_24 (by decide) rfl) rfl ?_
  refine qr_iaload 1680 (qf_24 (by decide) rfl) rfl (by omega) (by omega) rfl ?_
  refine qy_v (xs ((i + 2) : Int).toNat) rfl ?_
  refine qr_aload_n 1681 (qf_24 (by decide) rfl) rfl rfl ?_
  refine qr_iload_n 1682 (qf_24 (by decide) rfl) rfl rfl ?_
  refine qr_iconst 1683 (qf_24 (by decide) rfl) rfl ?_
  refine qr_iadd 1684 (qf_24 (by decide) rfl) rfl ?_
  refine qr_iaload 1685 (qf_24 (by decide) rfl) rfl (by omega) (by omega) rfl ?_
  refine qy_v (xs ((i + 3) : Int).toNat) rfl ?_
  refine qr_call 1688 109 19340 (qf_24 (by decide) rfl) rfl (Nat.le_of_ble_eq_true rfl) (Nat.le_of_ble_eq_true rfl) rfl rfl (sf_148_16 (d := 84) hI (rx _) (rx _) (rx _)) ?_
  rintro _ _ ⟨σ1, α1, rfl, hI1, hG1, v1, rfl, hv1⟩
  have k1_16_15 : σ1 16 15 = σ 16 15 := hG1.1 16 15 (by decide)
  have k1_58_12 : σ1 58 12 = σ 58 12 := hG1.1 58 12 (by decide)
  have k1_86_4 : σ1 86 4 = σ 86 4 := hG1.1 86 4 (by decide)
  have k1_86_5 : σ1 86 5 = σ 86 5 := hG1.1 86 5 (by decide)
  have k1_86_11 : σ1 86 11 = σ 86 11 := hG1.1 86 11 (by decide)
  have k1_86_32 : σ1 86 32 = σ 86 32 := hG1.1 86 32 (by decide)
  have hR_1 := qR_fr hG1 (by decide) (by decide) hR
  have hK_1 := qR2_fr hG1 (by decide) (by decide) hK
  have hT_1 := qTp_fr hG1 (by decide) hT
  have hF_1 := qRF_fr hG1 (by decide) (by decide) hF
  have hP_1 := qRP_fr hG1 (by decide) (by decide) hP
  have hH_1 := qRH_fr hG1 (by decide) (by decide) hH
  have hD_1 := qRL_fr hG1 (by decide) (by decide) hD
  have hN_1 := qRN_fr hG1 (by decide) hN
  have hB_1 := qRT_fr hG1 (by decide) (by decide) hB
  have hC_1 := qRC_fr hG1 (by decide) (by decide) (by decide) (by decide) hC
  have hS_1 := qSt_fr hG1 (by decide) (by decide) hS
  have hW_1 := qRS_fr hG1 (by decide) (by decide) hW
  have hZ_1 := qPZ_fr hG1 (by decide) (by decide) hZ
  show qr_W (qe L xs vb) 100 qx_e0 lw_Q0 (1688, [(3, .int (qz i)), (2, .ref 86), (1, .ref 16), (0, .ref 0)], [.int (qz v1)], qw σ1 α1 κ ρ, 109, 19340)
  refine qr_pop 1689 (qf_24 (by decide) rfl) rfl rfl ?_
  refine qr_aload_n 1690 (qf_24 (by decide) rfl) rfl rfl ?_
  refine qr_aload_n 1691 (qf_24 (by decide) rfl) rfl rfl ?_
  refine qr_iload_n 1692 (qf_24 (by decide) rfl) rfl rfl ?_
  refine qr_iconst 1693 (qf_24 (by decide) rfl) rfl ?_
  refine qr_iadd 1694 (qf_24 (by decide) rfl) rfl ?_
  refine qr_iaload 1695 (qf_25 (by decide) rfl) rfl (by omega) (by omega) rfl ?_
  refine qy_v (xs ((i + 1) : Int).toNat) rfl ?_
  refine qr_aload_n 1696 (qf_25 (by decide) rfl) rfl rfl ?_
  refine qr_iload_n 1697 (qf_25 (by decide) rfl) rfl rfl ?_
  refine qr_iconst 1698 (qf_25 (by decide) rfl) rfl ?_
  refine qr_iadd 1699 (qf_25 (by decide) rfl) rfl ?_
  refine qr_iaload 1700 (qf_25 (by decide) rfl) rfl (by omega) (by omega) rfl ?_
  refine qy_v (xs ((i + 2) : Int).toNat) rfl ?_
  refine qr_aload_n 1701 (qf_25 (by decide) rfl) rfl rfl ?_
  refine qr_iload_n 1702 (qf_25 (by decide) rfl) rfl rfl ?_
  refine qr_iconst 1703 (qf_25 (by decide) rfl) rfl ?_
  refine qr_iadd 1704 (qf_25 (by decide) rfl) rfl ?_
  refine qr_iaload 1705 (qf_25 (by decide) rfl) rfl (by omega) (by omega) rfl ?_
  refine qy_v (xs ((i + 3) : Int).toNat) rfl ?_
  refine qr_call 1708 109 19340 (qf_25 (by decide) rfl) rfl (Nat.le_of_ble_eq_true rfl) (Nat.le_of_ble_eq_true rfl) rfl rfl (sf_255_86 (d := 93) hI1 (rx _) (rx _) (rx _)) ?_
  rintro _ _ ⟨σ2, α2, rfl, hI2, hG2, v2, rfl, hv2⟩
  have k2_16_15 : σ2 16 15 = σ1 16 15 := hG2.1 16 15 (by decide)
  have k2_58_12 : σ2 58 12 = σ1 58 12 := hG2.1 58 12 (by decide)
  have k2_86_4 : σ2 86 4 = σ1 86 4 := hG2.1 86 4 (by decide)
  have k2_86_5 : σ2 86 5 = σ1 86 5 := hG2.1 86 5 (by decide)
  have k2_86_11 : σ2 86 11 = σ1 86 11 := hG2.1 86 11 (by decide)
  have k2_86_32 : σ2 86 32 = σ1 86 32 := hG2.1 86 32 (by decide)
  have hR_2 := qR_fr hG2 (by decide) (by decide) hR_1
  have hK_2 := qR2_fr hG2 (by decide) (by decide) hK_1
  have hT_2 := qTp_fr hG2 (by decide) hT_1
  have hF_2 := qRF_fr hG2 (by decide) (by decide) hF_1
  have hP_2 := qRP_fr hG2 (by decide) (by decide) hP_1
  have hH_2 := qRH_fr hG2 (by decide) (by decide) hH_1
  have hD_2 := qRL_fr hG2 (by decide) (by decide) hD_1
  have hN_2 := qRN_fr hG2 (by decide) hN_1
  have hB_2 := qRT_fr hG2 (by decide) (by decide) hB_1
  have hC_2 := qRC_fr hG2 (by decide) (by decide) (by decide) (by decide) hC_1
  have hS_2 := qSt_fr hG2 (by decide) (by decide) hS_1
  have hW_2 := qRS_fr hG2 (by decide) (by decide) hW_1
  have hZ_2 := qPZ_fr hG2 (by decide) (by decide) hZ_1
  show qr_W (qe L xs vb) 100 qx_e0 lw_Q0 (1708, [(3, .int (qz i)), (2, .ref 86), (1, .ref 16), (0, .ref 0)], [.int (qz v2)], qw σ2 α2 κ ρ, 109, 19340)
  refine qr_pop 1709 (qf_25 (by decide) rfl) rfl rfl ?_
  refine qr_goto 2036 (qf_25 (by decide) rfl) rfl ?_
  exact lw_end hL hi rx (hk _ _ _ _ ⟨hI2, by omega, by omega, by omega, hZ_2, hR_2, hK_2, hT_2, hF_2, hP_2, hH_2, hD_2, hN_2, hB_2, hC_2, hS_2, hW_2⟩)
set_option maxHeartbeats 4000000 in
set_option maxRecDepth 20000 in
theorem lw_c33 {L : Nat} {xs : Nat → Int} {vb : Bool} {i : Int} {σ α : Nat → Nat → Int} {κ : Nat → Option Nat} {ρ : Nat} (hL : L ≤ 3072) (hi : 0 ≤ i ∧ i + 6 ≤ (L : Int)) (rx : ∀ k, -2147483648 ≤ xs k ∧ xs k ≤ 2147483647) (hJ : lw_J i σ α κ ρ) (hk : ∀ σ' α' κ' ρ', lw_J (i + 6) σ' α' κ' ρ' → qr_W (qe L xs vb) 100 qx_e0 lw_Q0 (18, [(3, .int (qz (i + 6))), (2, .ref 86), (1, .ref 16), (0, .ref 0)], [], qw σ' α' κ' ρ', 109, 19340)) : qr_W (qe L xs vb) 100 qx_e0 lw_Q0 (1712, [(3, .int (qz i)), (2, .ref 86), (1, .ref 16), (0, .ref 0)], [], qw σ α κ ρ, 109, 19340) := by
  obtain ⟨hI, hj0, hj1, hj2, hZ, hR, hK, hT, hF, hP, hH, hD, hN, hB, hC, hS, hW⟩ := hJ
  refine qr_aload_n 1713 (qf_25 (by decide) rfl) rfl rfl ?_
  refine qr_aload_n 1714 (qf_25 (by decide) rfl) rfl rfl ?_
  refine qr_iload_n 1715 (qf_25 (by decide) rfl) rfl rfl ?_
  refine qr_iconst 1716 (qf_25 (by decide) rfl) rfl ?_
  refine qr_iadd 1717 (qf_25 (by decide) rfl) rfl ?_
  refine qr_iaload 1718 (qf_25 (by decide) rfl) rfl (by omega) (by omega) rfl ?_
  refine qy_v (xs ((i + 1) : Int).toNat) rfl ?_
  refine qr_call 1721 109 19340 (qf_25 (by decide) rfl) rfl (Nat.le_of_ble_eq_true rfl) (Nat.le_of_ble_eq_true rfl) rfl rfl (sf_154_16 (d := 99) hI (rx _)) ?_
  rintro _ _ ⟨rfl, v1, rfl, hv1⟩
  show qr_W (qe L xs vb) 100 qx_e0 lw_Q0 (1721, [(3, .int (qz i)), (2, .ref 86), (1, .ref 16), (0, .ref 0)], [.int (qz v1)], qw σ α κ ρ, 109, 19340)
  refine qr_pop 1722 (qf_25 (by decide) rfl) rfl rfl ?_
  refine qr_aload_n 1723 (qf_25 (by decide) rfl) rfl rfl ?_
  refine qr_aload_n 1724 (qf_25 (by decide) rfl) rfl rfl ?_
  refine qr_iload_n 1725 (qf_25 (by decide) rfl) rfl rfl ?_
  refine qr_iconst 1726 (qf_25 (by decide) rfl) rfl ?_
  refine qr_iadd 1727 (qf_25 (by decide) rfl) rfl ?_
  refine qr_iaload 1728 (qf_25 (by decide) rfl) rfl (by omega) (by omega) rfl ?_
  refine qy_v (xs ((i + 1) : Int).toNat) rfl ?_
  refine qr_call 1731 109 19340 (qf_25 (by decide) rfl) rfl (Nat.le_of_ble_eq_true rfl) (Nat.le_of_ble_eq_true rfl) rfl rfl (sf_261_86 (d := 99) hI (rx _)) ?_
  rintro _ _ ⟨rfl, v2, rfl, hv2⟩
  show qr_W (qe L xs vb) 100 qx_e0 lw_Q0 (1731, [(3, .int (qz i)), (2, .ref 86), (1, .ref 16), (0, .ref 0)], [.int (qz v2)], qw σ α κ ρ, 109, 19340)
  refine qr_pop 1732 (qf_25 (by decide) rfl) rfl rfl ?_
  refine qr_goto 2036 (qf_25 (by decide) rfl) rfl ?_
  exact lw_end hL hi rx (hk _ _ _ _ ⟨hI, by omega, by omega, by omega, hZ, hR, hK, hT, hF, hP, hH, hD, hN, hB, hC, hS, hW⟩)
set_option maxHeartbeats 4000000 in
set_option maxRecDepth 20000 in
theorem lw_c34 {L : Nat} {xs : Nat → Int} {vb : Bool} {i : Int} {σ α : Nat → Nat → Int} {κ : Nat → Option Nat} {ρ : Nat} (hL : L ≤ 3072) (hi : 0 ≤ i ∧ i + 6 ≤ (L : Int)) (rx : ∀ k, -2147483648 ≤ xs k ∧ xs k ≤ 2147483647) (hJ : lw_J i σ α κ ρ) (hk : ∀ σ' α' κ' ρ', lw_J (i + 6) σ' α' κ' ρ' → qr_W (qe L xs vb) 100 qx_e0 lw_Q0 (18, [(3, .int (qz (i + 6))), (2, .ref 86), (1, .ref 16), (0, .ref 0)], [], qw σ' α' κ' ρ', 109, 19340)) : qr_W (qe L xs vb) 100 qx_e0 lw_Q0 (1735, [(3, .int (qz i)), (2, .ref 86), (1, .ref 16), (0, .ref 0)], [], qw σ α κ ρ, 109, 19340) := by
  obtain ⟨hI, hj0, hj1, hj2, hZ, hR, hK, hT, hF, hP, hH, hD, hN, hB, hC, hS, hW⟩ := hJ
  refine qr_aload_n 1736 (qf_25 (by decide) rfl) rfl rfl ?_
  refine qr_aload_n 1737 (qf_25 (by decide) rfl) rfl rfl ?_
  refine qr_iload_n 1738 (qf_25 (by decide) rfl) rfl rfl ?_
  refine qr_iconst 1739 (qf_25 (by decide) rfl) rfl ?_
  refine qr_iadd 1740 (qf_25 (by decide) rfl) rfl ?_
  refine qr_iaload 1741 (qf_25 (by decide) rfl) rfl (by omega) (by omega) rfl ?_
  refine qy_v (xs ((i + 1) : Int).toNat) rfl ?_
  refine qr_aload_n 1742 (qf_25 (by decide) rfl) rfl rfl ?_
  refine qr_iload_n 1743 (qf_25 (by decide) rfl) rfl rfl ?_
  refine qr_iconst 1744 (qf_25 (by decide) rfl) rfl ?_
  refine qr_iadd 1745 (qf_25 (by decide) rfl) rfl ?_
  refine qr_iaload 1746 (qf_25 (by decide) rfl) rfl (by omega) (by omega) rfl ?_
  refine qy_v (xs ((i + 2) : Int).toNat) rfl ?_
  refine qr_call 1749 109 19340 (qf_25 (by decide) rfl) rfl (Nat.le_of_ble_eq_true rfl) (Nat.le_of_ble_eq_true rfl) rfl rfl (sf_155_16x (d := 98) hI (rx _) (rx _)) ?_
  rintro _ _ ⟨α1, rfl, hI1, hG1, v1, rfl, hv1, hp1⟩
  have hK_1 := qR2_fr hG1 (by decide) (by decide) hK
  have hT_1 := qTp_fr hG1 (by decide) hT
  have hF_1 := qRF_fr hG1 (by decide) (by decide) hF
  have hP_1 := qRP_fr hG1 (by decide) (by decide) hP
  have hH_1 := qRH_fr hG1 (by decide) (by decide) hH
  have hD_1 := qRL_fr hG1 (by decide) (by decide) hD
  have hN_1 := qRN_fr hG1 (by decide) hN
  have hB_1 := qRT_fr hG1 (by decide) (by decide) hB
  have hC_1 := qRC_fr hG1 (by decide) (by decide) (by decide) (by decide) hC
  have hS_1 := qSt_fr hG1 (by decide) (by decide) hS
  have hW_1 := qRS_fr hG1 (by decide) (by decide) hW
  have hZ_1 := qPZ_fr hG1 (by decide) (by decide) hZ
  show qr_W (qe L xs vb) 100 qx_e0 lw_Q0 (1749, [(3, .int (qz i)), (2, .ref 86), (1, .ref 16), (0, .ref 0)], [.int (qz v1)], qw σ α1 κ ρ, 109, 19340)
  refine qr_pop 1750 (qf_25 (by decide) rfl) rfl rfl ?_
  refine qr_aload_n 1751 (qf_25 (by decide) rfl) rfl rfl ?_
  refine qr_aload_n 1752 (qf_25 (by decide) rfl) rfl rfl ?_
  refine qr_iload_n 1753 (qf_25 (by decide) rfl) rfl rfl ?_
  refine qr_iconst 1754 (qf_25 (by decide) rfl) rfl ?_
  refine qr_iadd 1755 (qf_25 (by decide) rfl) rfl ?_
  refine qr_iaload 1756 (qf_25 (by decide) rfl) rfl (by omega) (by omega) rfl ?_
  refine qy_v (xs ((i + 1) : Int).toNat) rfl ?_
  refine qr_aload_n 1757 (qf_26 (by decide) rfl) rfl rfl ?_
  refine qr_iload_n 1758 (qf_26 (by decide) rfl) rfl rfl ?_
  refine qr_iconst 1759 (qf_26 (by decide) rfl) rfl ?_
  refine qr_iadd 1760 (qf_26 (by decide) rfl) rfl ?_
  refine qr_iaload 1761 (qf_26 (by decide) rfl) rfl (by omega) (by omega) rfl ?_
  refine qy_v (xs ((i + 2) : Int).toNat) rfl ?_
  refine qr_call 1764 109 19340 (qf_26 (by decide) rfl) rfl (Nat.le_of_ble_eq_true rfl) (Nat.le_of_ble_eq_true rfl) rfl rfl (sf_262_86x (d := 97) hI1 (rx _) (rx _)) ?_
  rintro _ _ ⟨α2, rfl, hI2, hG2, v2, rfl, hv2, hp2⟩
  have hK_2 := qR2_fr hG2 (by decide) (by decide) hK_1
  have hT_2 := qTp_fr hG2 (by decide) hT_1
  have hF_2 := qRF_fr hG2 (by decide) (by decide) hF_1
  have hP_2 := qRP_fr hG2 (by decide) (by decide) hP_1
  have hH_2 := qRH_fr hG2 (by decide) (by decide) hH_1
  have hD_2 := qRL_fr hG2 (by decide) (by decide) hD_1
  have hN_2 := qRN_fr hG2 (by decide) hN_1
  have hB_2 := qRT_fr hG2 (by decide) (by decide) hB_1
  have hC_2 := qRC_fr hG2 (by decide) (by decide) (by decide) (by decide) hC_1
  have hS_2 := qSt_fr hG2 (by decide) (by decide) hS_1
  have hW_2 := qRS_fr hG2 (by decide) (by decide) hW_1
  have hZ_2 := qPZ_fr hG2 (by decide) (by decide) hZ_1
  obtain ⟨hv, hRb⟩ := rl_keep hI hR hG1 hG2 hp1 hp2
  show qr_W (qe L xs vb) 100 qx_e0 lw_Q0 (1764, [(3, .int (qz i)), (2, .ref 86), (1, .ref 16), (0, .ref 0)], [.int (qz v2)], qw σ α2 κ ρ, 109, 19340)
  refine qr_pop 1765 (qf_26 (by decide) rfl) rfl rfl ?_
  refine qr_goto 2036 (qf_26 (by decide) rfl) rfl ?_
  exact lw_end hL hi rx (hk _ _ _ _ ⟨hI2, by omega, by omega, by omega, hZ_2, hRb, hK_2, hT_2, hF_2, hP_2, hH_2, hD_2, hN_2, hB_2, hC_2, hS_2, hW_2⟩)
set_option maxHeartbeats 4000000 in
set_option maxRecDepth 20000 in
theorem lw_c35 {L : Nat} {xs : Nat → Int} {vb : Bool} {i : Int} {σ α : Nat → Nat → Int} {κ : Nat → Option Nat} {ρ : Nat} (hL : L ≤ 3072) (hi : 0 ≤ i ∧ i + 6 ≤ (L : Int)) (rx : ∀ k, -2147483648 ≤ xs k ∧ xs k ≤ 2147483647) (hJ : lw_J i σ α κ ρ) (hk : ∀ σ' α' κ' ρ', lw_J (i + 6) σ' α' κ' ρ' → qr_W (qe L xs vb) 100 qx_e0 lw_Q0 (18, [(3, .int (qz (i + 6))), (2, .ref 86), (1, .ref 16), (0, .ref 0)], [], qw σ' α' κ' ρ', 109, 19340)) : qr_W (qe L xs vb) 100 qx_e0 lw_Q0 (1768, [(3, .int (qz i)), (2, .ref 86), (1, .ref 16), (0, .ref 0)], [], qw σ α κ ρ, 109, 19340) := by
  obtain ⟨hI, hj0, hj1, hj2, hZ, hR, hK, hT, hF, hP, hH, hD, hN, hB, hC, hS, hW⟩ := hJ
  refine qr_aload_n 1769 (qf_26 (by decide) rfl) rfl rfl ?_
  refine qr_aload_n 1770 (qf_26 (by decide) rfl) rfl rfl ?_
  refine qr_iload_n 1771 (qf_26 (by decide) rfl) rfl rfl ?_
  refine qr_iconst 1772 (qf_26 (by decide) rfl) rfl ?_
  refine qr_iadd 1773 (qf_26 (by decide) rfl) rfl ?_
  refine qr_iaload 1774 (qf_26 (by decide) rfl) rfl (by omega) (by omega) rfl ?_
  refine qy_v (xs ((i + 1) : Int).toNat) rfl ?_
  refine qr_aload_n 1775 (qf_26 (by decide) rfl) rfl rfl ?_
  refine qr_iload_n 1776 (qf_26 (by decide) rfl) rfl rfl ?_
  refine qr_iconst 1777 (qf_26 (by decide) rfl) rfl ?_
  refine qr_iadd 1778 (qf_26 (by decide) rfl) rfl ?_
  refine qr_iaload 1779 (qf_26 (by decide) rfl) rfl (by omega) (by omega) rfl ?_
  refine qy_v (xs ((i + 2) : Int).toNat) rfl ?_
  refine qr_aload_n 1780 (qf_26 (by decide) rfl) rfl rfl ?_
  refine qr_iload_n 1781 (qf_26 (by decide) rfl) rfl rfl ?_
  refine qr_iconst 1782 (qf_26 (by decide) rfl) rfl ?_
  refine qr_iadd 1783 (qf_26 (by decide) rfl) rfl ?_
  refine qr_iaload 1784 (qf_26 (by decide) rfl) rfl (by omega) (by omega) rfl ?_
  refine qy_v (xs ((i + 3) : Int).toNat) rfl ?_
  refine qr_call 1787 109 19340 (qf_26 (by decide) rfl) rfl (Nat.le_of_ble_eq_true rfl) (Nat.le_of_ble_eq_true rfl) rfl rfl (sf_157_16x (d := 98) hI (rx _) (rx _) (rx _)) ?_
  rintro _ _ ⟨α1, rfl, hI1, hG1, v1, rfl, hv1, hp1⟩
  have hK_1 := qR2_fr hG1 (by decide) (by decide) hK
  have hT_1 := qTp_fr hG1 (by decide) hT
  have hF_1 := qRF_fr hG1 (by decide) (by decide) hF
  have hP_1 := qRP_fr hG1 (by decide) (by decide) hP
  have hH_1 := qRH_fr hG1 (by decide) (by decide) hH
  have hD_1 := qRL_fr hG1 (by decide) (by decide) hD
  have hN_1 := qRN_fr hG1 (by decide) hN
  have hB_1 := qRT_fr hG1 (by decide) (by decide) hB
  have hC_1 := qRC_fr hG1 (by decide) (by decide) (by decide) (by decide) hC
  have hS_1 := qSt_fr hG1 (by decide) (by decide) hS
  have hW_1 := qRS_fr hG1 (by decide) (by decide) hW
  have hZ_1 := qPZ_fr hG1 (by decide) (by decide) hZ
  show qr_W (qe L xs vb) 100 qx_e0 lw_Q0 (1787, [(3, .int (qz i)), (2, .ref 86), (1, .ref 16), (0, .ref 0)], [.int (qz v1)], qw σ α1 κ ρ, 109, 19340)
  refine qr_pop 1788 (qf_26 (by decide) rfl) rfl rfl ?_
  refine qr_aload_n 1789 (qf_26 (by decide) rfl) rfl rfl ?_
  refine qr_aload_n 1790 (qf_26 (by decide) rfl) rfl rfl ?_
  refine qr_iload_n 1791 (qf_26 (by decide) rfl) rfl rfl ?_
  refine qr_iconst 1792 (qf_26 (by decide) rfl) rfl ?_
  refine qr_iadd 1793 (qf_26 (by decide) rfl) rfl ?_
  refine qr_iaload 1794 (qf_26 (by decide) rfl) rfl (by omega) (by omega) rfl ?_
  refine qy_v (xs ((i + 1) : Int).toNat) rfl ?_
  refine qr_aload_n 1795 (qf_26 (by decide) rfl) rfl rfl ?_
  refine qr_iload_n 1796 (qf_26 (by decide) rfl) rfl rfl ?_
  refine qr_iconst 1797 (qf_26 (by decide) rfl) rfl ?_
  refine qr_iadd 1798 (qf_26 (by decide) rfl) rfl ?_
  refine qr_iaload 1799 (qf_26 (by decide) rfl) rfl (by omega) (by omega) rfl ?_
  refine qy_v (xs ((i + 2) : Int).toNat) rfl ?_
  refine qr_aload_n 1800 (qf_26 (by decide) rfl) rfl rfl ?_
  refine qr_iload_n 1801 (qf_26 (by decide) rfl) rfl rfl ?_
  refine qr_iconst 1802 (qf_26 (by decide) rfl) rfl ?_
  refine qr_iadd 1803 (qf_26 (by decide) rfl) rfl ?_
  refine qr_iaload 1804 (qf_26 (by decide) rfl) rfl (by omega) (by omega) rfl ?_
  refine qy_v (xs ((i + 3) : Int).toNat) rfl ?_
  refine qr_call 1807 109 19340 (qf_26 (by decide) rfl) rfl (Nat.le_of_ble_eq_true rfl) (Nat.le_of_ble_eq_true rfl) rfl rfl (sf_263_86x (d := 97) hI1 (rx _) (rx _) (rx _)) ?_
  rintro _ _ ⟨α2, rfl, hI2, hG2, v2, rfl, hv2, hp2⟩
  have hK_2 := qR2_fr hG2 (by decide) (by decide) hK_1
  have hT_2 := qTp_fr hG2 (by decide) hT_1
  have hF_2 := qRF_fr hG2 (by decide) (by decide) hF_1
  have hP_2 := qRP_fr hG2 (by decide) (by decide) hP_1
  have hH_2 := qRH_fr hG2 (by decide) (by decide) hH_1
  have hD_2 := qRL_fr hG2 (by decide) (by decide) hD_1
  have hN_2 := qRN_fr hG2 (by decide) hN_1
  have hB_2 := qRT_fr hG2 (by decide) (by decide) hB_1
  have hC_2 := qRC_fr hG2 (by decide) (by decide) (by decide) (by decide) hC_1
  have hS_2 := qSt_fr hG2 (by decide) (by decide) hS_1
  have hW_2 := qRS_fr hG2 (by decide) (by decide) hW_1
  have hZ_2 := qPZ_fr hG2 (by decide) (by decide) hZ_1
  obtain ⟨hv, hRb⟩ := rl_row hI hR hG1 hG2 hp1 hp2
  show qr_W (qe L xs vb) 100 qx_e0 lw_Q0 (1807, [(3, .int (qz i)), (2, .ref 86), (1, .ref 16), (0, .ref 0)], [.int (qz v2)], qw σ α2 κ ρ, 109, 19340)
  refine qr_pop 1808 (qf_26 (by decide) rfl) rfl rfl ?_
  refine qr_goto 2036 (qf_26 (by decide) rfl) rfl ?_
  exact lw_end hL hi rx (hk _ _ _ _ ⟨hI2, by omega, by omega, by omega, hZ_2, hRb, hK_2, hT_2, hF_2, hP_2, hH_2, hD_2, hN_2, hB_2, hC_2, hS_2, hW_2⟩)
set_option maxHeartbeats 4000000 in
set_option maxRecDepth 20000 in
theorem lw_c36 {L : Nat} {xs : Nat → Int} {vb : Bool} {i : Int} {σ α : Nat → Nat → Int} {κ : Nat → Option Nat} {ρ : Nat} (hL : L ≤ 3072) (hi : 0 ≤ i ∧ i + 6 ≤ (L : Int)) (rx : ∀ k, -2147483648 ≤ xs k ∧ xs k ≤ 2147483647) (hJ : lw_J i σ α κ ρ) (hk : ∀ σ' α' κ' ρ', lw_J (i + 6) σ' α' κ' ρ' → qr_W (qe L xs vb) 100 qx_e0 lw_Q0 (18, [(3, .int (qz (i + 6))), (2, .ref 86), (1, .ref 16), (0, .ref 0)], [], qw σ' α' κ' ρ', 109, 19340)) : qr_W (qe L xs vb) 100 qx_e0 lw_Q0 (1811, [(3, .int (qz i)), (2, .ref 86), (1, .ref 16), (0, .ref 0)], [], qw σ α κ ρ, 109, 19340) := by
  obtain ⟨hI, hj0, hj1, hj2, hZ, hR, hK, hT, hF, hP, hH, hD, hN, hB, hC, hS, hW⟩ := hJ
  refine qr_aload_n 1812 (qf_26 (by decide) rfl) rfl rfl ?_
  refine qr_aload_n 1813 (qf_26 (by decide) rfl) rfl rfl ?_
  refine qr_iload_n 1814 (qf_26 (by decide) rfl) rfl rfl ?_
  refine qr_iconst 1815 (qf_26 (by decide) rfl) rfl ?_
  refine qr_iadd 1816 (qf_26 (by decide) rfl) rfl ?_
  refine qr_iaload 1817 (qf_27 (by decide) rfl) rfl (by omega) (by omega) rfl ?_
  refine qy_v (xs ((i + 1) : Int).toNat) rfl ?_
  refine qr_aload_n 1818 (qf_27 (by decide) rfl) rfl rfl ?_
  refine qr_iload_n 1819 (qf_27 (by decide) rfl) rfl rfl ?_
  refine qr_iconst 1820 (qf_27 (by decide) rfl) rfl ?_
  refine qr_iadd 1821 (qf_27 (by decide) rfl) rfl ?_
  refine qr_iaload 1822 (qf_27 (by decide) rfl) rfl (by omega) (by omega) rfl ?_
  refine qy_v (xs ((i + 2) : Int).toNat) rfl ?_
  refine qr_aload_n 1823 (qf_27 (by decide) rfl) rfl rfl ?_
  refine qr_iload_n 1824 (qf_27 (by decide) rfl) rfl rfl ?_
  refine qr_iconst 1825 (qf_27 (by decide) rfl) rfl ?_
  refine qr_iadd 1826 (qf_27 (by decide) rfl) rfl ?_
  refine qr_iaload 1827 (qf_27 (by decide) rfl) rfl (by omega) (by omega) rfl ?_
  refine qy_v (xs ((i + 3) : Int).toNat) rfl ?_
  refine qr_i2l 1828 (qf_27 (by decide) rfl) (rx _) rfl ?_
  refine qr_bipush 1830 (qf_27 (by decide) rfl) (by decide) rfl ?_
  refine qr_lshl 1831 (qf_27 (by decide) rfl) rfl ?_
  refine qr_aload_n 1832 (qf_27 (by decide) rfl) rfl rfl ?_
  refine qr_iload_n 1833 (qf_27 (by decide) rfl) rfl rfl ?_
  refine qr_iconst 1834 (qf_27 (by decide) rfl) rfl ?_
  refine qr_iadd 1835 (qf_27 (by decide) rfl) rfl ?_
  refine qr_iaload 1836 (qf_27 (by decide) rfl) rfl (by omega) (by omega) rfl ?_
  refine qy_v (xs ((i + 4) : Int).toNat) rfl ?_
  refine qr_i2l 1837 (qf_27 (by decide) rfl) (rx _) rfl ?_
  refine qr_ldc2 4294967295 1840 (qf_27 (by decide) rfl) (by decide) rfl ?_
  refine qr_land 1841 (qf_27 (by decide) rfl) rfl ?_
  refine qr_lor 1842 (qf_27 (by decide) rfl) rfl ?_
  refine qr_call 1845 109 19340 (qf_27 (by decide) rfl) rfl (Nat.le_of_ble_eq_true rfl) (Nat.le_of_ble_eq_true rfl) rfl rfl (sf_159_16x (d := 97) hI (rx _) (rx _) (ql_rng _)) ?_
  rintro _ _ ⟨α1, rfl, hI1, hG1, v1, rfl, hv1, hp1⟩
  have hK_1 := qR2_fr hG1 (by decide) (by decide) hK
  have hT_1 := qTp_fr hG1 (by decide) hT
  have hF_1 := qRF_fr hG1 (by decide) (by decide) hF
  have hP_1 := qRP_fr hG1 (by decide) (by decide) hP
  have hH_1 := qRH_fr hG1 (by decide) (by decide) hH
  have hD_1 := qRL_fr hG1 (by decide) (by decide) hD
  have hN_1 := qRN_fr hG1 (by decide) hN
  have hB_1 := qRT_fr hG1 (by decide) (by decide) hB
  have hC_1 := qRC_fr hG1 (by decide) (by decide) (by decide) (by decide) hC
  have hS_1 := qSt_fr hG1 (by decide) (by decide) hS
  have hW_1 := qRS_fr hG1 (by decide) (by decide) hW
  have hZ_1 := qPZ_fr hG1 (by decide) (by decide) hZ
  show qr_W (qe L xs vb) 100 qx_e0 lw_Q0 (1845, [(3, .int (qz i)), (2, .ref 86), (1, .ref 16), (0, .ref 0)], [.int (qz v1)], qw σ α1 κ ρ, 109, 19340)
  refine qr_pop 1846 (qf_27 (by decide) rfl) rfl rfl ?_
  refine qr_aload_n 1847 (qf_27 (by decide) rfl) rfl rfl ?_
  refine qr_aload_n 1848 (qf_27 (by decide) rfl) rfl rfl ?_
  refine qr_iload_n 1849 (qf_27 (by decide) rfl) rfl rfl ?_
  refine qr_iconst 1850 (qf_27 (by decide) rfl) rfl ?_
  refine qr_iadd 1851 (qf_27 (by decide) rfl) rfl ?_
  refine qr_iaload 1852 (qf_27 (by decide) rfl) rfl (by omega) (by omega) rfl ?_
  refine qy_v (xs ((i + 1) : Int).toNat) rfl ?_
  refine qr_aload_n 1853 (qf_27 (by decide) rfl) rfl rfl ?_
  refine qr_iload_n 1854 (qf_27 (by decide) rfl) rfl rfl ?_
  refine qr_iconst 1855 (qf_27 (by decide) rfl) rfl ?_
  refine qr_iadd 1856 (qf_27 (by decide) rfl) rfl ?_
  refine qr_iaload 1857 (qf_27 (by decide) rfl) rfl (by omega) (by omega) rfl ?_
  refine qy_v (xs ((i + 2) : Int).toNat) rfl ?_
  refine qr_aload_n 1858 (qf_27 (by decide) rfl) rfl rfl ?_
  refine qr_iload_n 1859 (qf_27 (by decide) rfl) rfl rfl ?_
  refine qr_iconst 1860 (qf_27 (by decide) rfl) rfl ?_
  refine qr_iadd 1861 (qf_27 (by decide) rfl) rfl ?_
  refine qr_iaload 1862 (qf_27 (by decide) rfl) rfl (by omega) (by omega) rfl ?_
  refine qy_v (xs ((i + 3) : Int).toNat) rfl ?_
  refine qr_i2l 1863 (qf_27 (by decide) rfl) (rx _) rfl ?_
  refine qr_bipush 1865 (qf_27 (by decide) rfl) (by decide) rfl ?_
  refine qr_lshl 1866 (qf_27 (by decide) rfl) rfl ?_
  refine qr_aload_n 1867 (qf_27 (by decide) rfl) rfl rfl ?_
  refine qr_iload_n 1868 (qf_27 (by decide) rfl) rfl rfl ?_
  refine qr_iconst 1869 (qf_27 (by decide) rfl) rfl ?_
  refine qr_iadd 1870 (qf_27 (by decide) rfl) rfl ?_
  refine qr_iaload 1871 (qf_27 (by decide) rfl) rfl (by omega) (by omega) rfl ?_
  refine qy_v (xs ((i + 4) : Int).toNat) rfl ?_
  refine qr_i2l 1872 (qf_27 (by decide) rfl) (rx _) rfl ?_
  refine qr_ldc2 4294967295 1875 (qf_28 (by decide) rfl) (by decide) rfl ?_
  refine qr_land 1876 (qf_28 (by decide) rfl) rfl ?_
  refine qr_lor 1877 (qf_28 (by decide) rfl) rfl ?_
  refine qr_call 1880 109 19340 (qf_28 (by decide) rfl) rfl (Nat.le_of_ble_eq_true rfl) (Nat.le_of_ble_eq_true rfl) rfl rfl (sf_264_86x (d := 96) hI1 (rx _) (rx _) (ql_rng _)) ?_
  rintro _ _ ⟨α2, rfl, hI2, hG2, v2, rfl, hv2, hp2⟩
  have hK_2 := qR2_fr hG2 (by decide) (by decide) hK_1
  have hT_2 := qTp_fr hG2 (by decide) hT_1
  have hF_2 := qRF_fr hG2 (by decide) (by decide) hF_1
  have hP_2 := qRP_fr hG2 (by decide) (by decide) hP_1
  have hH_2 := qRH_fr hG2 (by decide) (by decide) hH_1
  have hD_2 := qRL_fr hG2 (by decide) (by decide) hD_1
  have hN_2 := qRN_fr hG2 (by decide) hN_1
  have hB_2 := qRT_fr hG2 (by decide) (by decide) hB_1
  have hC_2 := qRC_fr hG2 (by decide) (by decide) (by decide) (by decide) hC_1
  have hS_2 := qSt_fr hG2 (by decide) (by decide) hS_1
  have hW_2 := qRS_fr hG2 (by decide) (by decide) hW_1
  have hZ_2 := qPZ_fr hG2 (by decide) (by decide) hZ_1
  obtain ⟨hv, hRb⟩ := rl_put hI hR hG1 hG2 hp1 hp2
  show qr_W (qe L xs vb) 100 qx_e0 lw_Q0 (1880, [(3, .int (qz i)), (2, .ref 86), (1, .ref 16), (0, .ref 0)], [.int (qz v2)], qw σ α2 κ ρ, 109, 19340)
  refine qr_pop 1881 (qf_28 (by decide) rfl) rfl rfl ?_
  refine qr_goto 2036 (qf_28 (by decide) rfl) rfl ?_
  exact lw_end hL hi rx (hk _ _ _ _ ⟨hI2, by omega, by omega, by omega, hZ_2, hRb, hK_2, hT_2, hF_2, hP_2, hH_2, hD_2, hN_2, hB_2, hC_2, hS_2, hW_2⟩)
set_option maxHeartbeats 4000000 in
set_option maxRecDepth 20000 in
theorem lw_c37 {L : Nat} {xs : Nat → Int} {vb : Bool} {i : Int} {σ α : Nat → Nat → Int} {κ : Nat → Option Nat} {ρ : Nat} (hL : L ≤ 3072) (hi : 0 ≤ i ∧ i + 6 ≤ (L : Int)) (rx : ∀ k, -2147483648 ≤ xs k ∧ xs k ≤ 2147483647) (hJ : lw_J i σ α κ ρ) (hk : ∀ σ' α' κ' ρ', lw_J (i + 6) σ' α' κ' ρ' → qr_W (qe L xs vb) 100 qx_e0 lw_Q0 (18, [(3, .int (qz (i + 6))), (2, .ref 86), (1, .ref 16), (0, .ref 0)], [], qw σ' α' κ' ρ', 109, 19340)) : qr_W (qe L xs vb) 100 qx_e0 lw_Q0 (1884, [(3, .int (qz i)), (2, .ref 86), (1, .ref 16), (0, .ref 0)], [], qw σ α κ ρ, 109, 19340) := by
  obtain ⟨hI, hj0, hj1, hj2, hZ, hR, hK, hT, hF, hP, hH, hD, hN, hB, hC, hS, hW⟩ := hJ
  refine qr_aload_n 1885 (qf_28 (by decide) rfl) rfl rfl ?_
  refine qr_aload_n 1886 (qf_28 (by decide) rfl) rfl rfl ?_
  refine qr_iload_n 1887 (qf_28 (by decide) rfl) rfl rfl ?_
  refine qr_iconst 1888 (qf_28 (by decide) rfl) rfl ?_
  refine qr_iadd 1889 (qf_28 (by decide) rfl) rfl ?_
  refine qr_iaload 1890 (qf_28 (by decide) rfl) rfl (by omega) (by omega) rfl ?_
  refine qy_v (xs ((i + 1) : Int).toNat) rfl ?_
  refine qr_aload_n 1891 (qf_28 (by decide) rfl) rfl rfl ?_
  refine qr_iload_n 1892 (qf_28 (by decide) rfl) rfl rfl ?_
  refine qr_iconst 1893 (qf_28 (by decide) rfl) rfl ?_
  refine qr_iadd 1894 (qf_28 (by decide) rfl) rfl ?_
  refine qr_iaload 1895 (qf_28 (by decide) rfl) rfl (by omega) (by omega) rfl ?_
  refine qy_v (xs ((i + 2) : Int).toNat) rfl ?_
  refine qr_call 1898 109 19340 (qf_28 (by decide) rfl) rfl (Nat.le_of_ble_eq_true rfl) (Nat.le_of_ble_eq_true rfl) rfl rfl (sf_163_16x (d := 97) hI (rx _) (rx _)) ?_
  rintro _ _ ⟨rfl, v1, rfl, hv1, hp1⟩
  show qr_W (qe L xs vb) 100 qx_e0 lw_Q0 (1898, [(3, .int (qz i)), (2, .ref 86), (1, .ref 16), (0, .ref 0)], [.long (ql v1)], qw σ α κ ρ, 109, 19340)
  refine qr_pop2 1899 (qf_28 (by decide) rfl) rfl rfl ?_
  refine qr_aload_n 1900 (qf_28 (by decide) rfl) rfl rfl ?_
  refine qr_aload_n 1901 (qf_28 (by decide) rfl) rfl rfl ?_
  refine qr_iload_n 1902 (qf_28 (by decide) rfl) rfl rfl ?_
  refine qr_iconst 1903 (qf_28 (by decide) rfl) rfl ?_
  refine qr_iadd 1904 (qf_28 (by decide) rfl) rfl ?_
  refine qr_iaload 1905 (qf_28 (by decide) rfl) rfl (by omega) (by omega) rfl ?_
  refine qy_v (xs ((i + 1) : Int).toNat) rfl ?_
  refine qr_aload_n 1906 (qf_28 (by decide) rfl) rfl rfl ?_
  refine qr_iload_n 1907 (qf_28 (by decide) rfl) rfl rfl ?_
  refine qr_iconst 1908 (qf_28 (by decide) rfl) rfl ?_
  refine qr_iadd 1909 (qf_28 (by decide) rfl) rfl ?_
  refine qr_iaload 1910 (qf_28 (by decide) rfl) rfl (by omega) (by omega) rfl ?_
  refine qy_v (xs ((i + 2) : Int).toNat) rfl ?_
  refine qr_call 1913 109 19340 (qf_28 (by decide) rfl) rfl (Nat.le_of_ble_eq_true rfl) (Nat.le_of_ble_eq_true rfl) rfl rfl (sf_267_86x (d := 96) hI (rx _) (rx _)) ?_
  rintro _ _ ⟨rfl, v2, rfl, hv2, hp2⟩
  have hv := rl_element hI hR hp1 hp2
  show qr_W (qe L xs vb) 100 qx_e0 lw_Q0 (1913, [(3, .int (qz i)), (2, .ref 86), (1, .ref 16), (0, .ref 0)], [.long (ql v2)], qw σ α κ ρ, 109, 19340)
  refine qr_pop2 1914 (qf_28 (by decide) rfl) rfl rfl ?_
  refine qr_goto 2036 (qf_28 (by decide) rfl) rfl ?_
  exact lw_end hL hi rx (hk _ _ _ _ ⟨hI, by omega, by omega, by omega, hZ, hR, hK, hT, hF, hP, hH, hD, hN, hB, hC, hS, hW⟩)
set_option maxHeartbeats 4000000 in
set_option maxRecDepth 20000 in
theorem lw_c38 {L : Nat} {xs : Nat → Int} {vb : Bool} {i : Int} {σ α : Nat → Nat → Int} {κ : Nat → Option Nat} {ρ : Nat} (hL : L ≤ 3072) (hi : 0 ≤ i ∧ i + 6 ≤ (L : Int)) (rx : ∀ k, -2147483648 ≤ xs k ∧ xs k ≤ 2147483647) (hJ : lw_J i σ α κ ρ) (hk : ∀ σ' α' κ' ρ', lw_J (i + 6) σ' α' κ' ρ' → qr_W (qe L xs vb) 100 qx_e0 lw_Q0 (18, [(3, .int (qz (i + 6))), (2, .ref 86), (1, .ref 16), (0, .ref 0)], [], qw σ' α' κ' ρ', 109, 19340)) : qr_W (qe L xs vb) 100 qx_e0 lw_Q0 (1917, [(3, .int (qz i)), (2, .ref 86), (1, .ref 16), (0, .ref 0)], [], qw σ α κ ρ, 109, 19340) := by
  obtain ⟨hI, hj0, hj1, hj2, hZ, hR, hK, hT, hF, hP, hH, hD, hN, hB, hC, hS, hW⟩ := hJ
  refine qr_aload_n 1918 (qf_28 (by decide) rfl) rfl rfl ?_
  refine qr_aload_n 1919 (qf_28 (by decide) rfl) rfl rfl ?_
  refine qr_iload_n 1920 (qf_28 (by decide) rfl) rfl rfl ?_
  refine qr_iconst 1921 (qf_28 (by decide) rfl) rfl ?_
  refine qr_iadd 1922 (qf_28 (by decide) rfl) rfl ?_
  refine qr_iaload 1923 (qf_28 (by decide) rfl) rfl (by omega) (by omega) rfl ?_
  refine qy_v (xs ((i + 1) : Int).toNat) rfl ?_
  refine qr_aload_n 1924 (qf_28 (by decide) rfl) rfl rfl ?_
  refine qr_iload_n 1925 (qf_28 (by decide) rfl) rfl rfl ?_
  refine qr_iconst 1926 (qf_28 (by decide) rfl) rfl ?_
  refine qr_iadd 1927 (qf_28 (by decide) rfl) rfl ?_
  refine qr_iaload 1928 (qf_28 (by decide) rfl) rfl (by omega) (by omega) rfl ?_
  refine qy_v (xs ((i + 2) : Int).toNat) rfl ?_
  refine qr_aload_n 1929 (qf_28 (by decide) rfl) rfl rfl ?_
  refine qr_iload_n 1930 (qf_28 (by decide) rfl) rfl rfl ?_
  refine qr_iconst 1931 (qf_28 (by decide) rfl) rfl ?_
  refine qr_iadd 1932 (qf_28 (by decide) rfl) rfl ?_
  refine qr_iaload 1933 (qf_28 (by decide) rfl) rfl (by omega) (by omega) rfl ?_
  refine qy_v (xs ((i + 3) : Int).toNat) rfl ?_
  refine qr_aload_n 1934 (qf_28 (by decide) rfl) rfl rfl ?_
  refine qr_iload_n 1935 (qf_29 (by decide) rfl) rfl rfl ?_
  refine qr_iconst 1936 (qf_29 (by decide) rfl) rfl ?_
  refine qr_iadd 1937 (qf_29 (by decide) rfl) rfl ?_
  refine qr_iaload 1938 (qf_29 (by decide) rfl) rfl (by omega) (by omega) rfl ?_
  refine qy_v (xs ((i + 4) : Int).toNat) rfl ?_
  refine qr_aload_n 1939 (qf_29 (by decide) rfl) rfl rfl ?_
  refine qr_iload_n 1940 (qf_29 (by decide) rfl) rfl rfl ?_
  refine qr_iconst 1941 (qf_29 (by decide) rfl) rfl ?_
  refine qr_iadd 1942 (qf_29 (by decide) rfl) rfl ?_
  refine qr_iaload 1943 (qf_29 (by decide) rfl) rfl (by omega) (by omega) rfl ?_
  refine qy_v (xs ((i + 5) : Int).toNat) rfl ?_
  refine qr_call 1946 109 19340 (qf_29 (by decide) rfl) rfl (Nat.le_of_ble_eq_true rfl) (Nat.le_of_ble_eq_true rfl) rfl rfl (sf_164_16x (d := 97) hI (rx _) (rx _) (rx _) (rx _) (rx _)) ?_
  rintro _ _ ⟨α1, rfl, hI1, hG1, v1, rfl, hv1, hp1⟩
  have hK_1 := qR2_fr hG1 (by decide) (by decide) hK
  have hT_1 := qTp_fr hG1 (by decide) hT
  have hF_1 := qRF_fr hG1 (by decide) (by decide) hF
  have hP_1 := qRP_fr hG1 (by decide) (by decide) hP
  have hH_1 := qRH_fr hG1 (by decide) (by decide) hH
  have hD_1 := qRL_fr hG1 (by decide) (by decide) hD
  have hN_1 := qRN_fr hG1 (by decide) hN
  have hB_1 := qRT_fr hG1 (by decide) (by decide) hB
  have hC_1 := qRC_fr hG1 (by decide) (by decide) (by decide) (by decide) hC
  have hS_1 := qSt_fr hG1 (by decide) (by decide) hS
  have hW_1 := qRS_fr hG1 (by decide) (by decide) hW
  have hZ_1 := qPZ_fr hG1 (by decide) (by decide) hZ
  show qr_W (qe L xs vb) 100 qx_e0 lw_Q0 (1946, [(3, .int (qz i)), (2, .ref 86), (1, .ref 16), (0, .ref 0)], [.int (qz v1)], qw σ α1 κ ρ, 109, 19340)
  refine qr_pop 1947 (qf_29 (by decide) rfl) rfl rfl ?_
  refine qr_aload_n 1948 (qf_29 (by decide) rfl) rfl rfl ?_
  refine qr_aload_n 1949 (qf_29 (by decide) rfl) rfl rfl ?_
  refine qr_iload_n 1950 (qf_29 (by decide) rfl) rfl rfl ?_
  refine qr_iconst 1951 (qf_29 (by decide) rfl) rfl ?_
  refine qr_iadd 1952 (qf_29 (by decide) rfl) rfl ?_
  refine qr_iaload 1953 (qf_29 (by decide) rfl) rfl (by omega) (by omega) rfl ?_
  refine qy_v (xs ((i + 1) : Int).toNat) rfl ?_
  refine qr_aload_n 1954 (qf_29 (by decide) rfl) rfl rfl ?_
  refine qr_iload_n 1955 (qf_29 (by decide) rfl) rfl rfl ?_
  refine qr_iconst 1956 (qf_29 (by decide) rfl) rfl ?_
  refine qr_iadd 1957 (qf_29 (by decide) rfl) rfl ?_
  refine qr_iaload 1958 (qf_29 (by decide) rfl) rfl (by omega) (by omega) rfl ?_
  refine qy_v (xs ((i + 2) : Int).toNat) rfl ?_
  refine qr_aload_n 1959 (qf_29 (by decide) rfl) rfl rfl ?_
  refine qr_iload_n 1960 (qf_29 (by decide) rfl) rfl rfl ?_
  refine qr_iconst 1961 (qf_29 (by decide) rfl) rfl ?_
  refine qr_iadd 1962 (qf_29 (by decide) rfl) rfl ?_
  refine qr_iaload 1963 (qf_29 (by decide) rfl) rfl (by omega) (by omega) rfl ?_
  refine qy_v (xs ((i + 3) : Int).toNat) rfl ?_
  refine qr_aload_n 1964 (qf_29 (by decide) rfl) rfl rfl ?_
  refine qr_iload_n 1965 (qf_29 (by decide) rfl) rfl rfl ?_
  refine qr_iconst 1966 (qf_29 (by decide) rfl) rfl ?_
  refine qr_iadd 1967 (qf_29 (by decide) rfl) rfl ?_
  refine qr_iaload 1968 (qf_29 (by decide) rfl) rfl (by omega) (by omega) rfl ?_
  refine qy_v (xs ((i + 4) : Int).toNat) rfl ?_
  refine qr_aload_n 1969 (qf_29 (by decide) rfl) rfl rfl ?_
  refine qr_iload_n 1970 (qf_29 (by decide) rfl) rfl rfl ?_
  refine qr_iconst 1971 (qf_29 (by decide) rfl) rfl ?_
  refine qr_iadd 1972 (qf_29 (by decide) rfl) rfl ?_
  refine qr_iaload 1973 (qf_29 (by decide) rfl) rfl (by omega) (by omega) rfl ?_
  refine qy_v (xs ((i + 5) : Int).toNat) rfl ?_
  refine qr_call 1976 109 19340 (qf_29 (by decide) rfl) rfl (Nat.le_of_ble_eq_true rfl) (Nat.le_of_ble_eq_true rfl) rfl rfl (sf_268_86x (d := 97) hI1 (rx _) (rx _) (rx _) (rx _) (rx _)) ?_
  rintro _ _ ⟨α2, rfl, hI2, hG2, v2, rfl, hv2, hp2⟩
  have hK_2 := qR2_fr hG2 (by decide) (by decide) hK_1
  have hT_2 := qTp_fr hG2 (by decide) hT_1
  have hF_2 := qRF_fr hG2 (by decide) (by decide) hF_1
  have hP_2 := qRP_fr hG2 (by decide) (by decide) hP_1
  have hH_2 := qRH_fr hG2 (by decide) (by decide) hH_1
  have hD_2 := qRL_fr hG2 (by decide) (by decide) hD_1
  have hN_2 := qRN_fr hG2 (by decide) hN_1
  have hB_2 := qRT_fr hG2 (by decide) (by decide) hB_1
  have hC_2 := qRC_fr hG2 (by decide) (by decide) (by decide) (by decide) hC_1
  have hS_2 := qSt_fr hG2 (by decide) (by decide) hS_1
  have hW_2 := qRS_fr hG2 (by decide) (by decide) hW_1
  have hZ_2 := qPZ_fr hG2 (by decide) (by decide) hZ_1
  obtain ⟨hv, hRb⟩ := rl_shift hI hR hG1 hG2 hp1 hp2
  show qr_W (qe L xs vb) 100 qx_e0 lw_Q0 (1976, [(3, .int (qz i)), (2, .ref 86), (1, .ref 16), (0, .ref 0)], [.int (qz v2)], qw σ α2 κ ρ, 109, 19340)
  refine qr_pop 1977 (qf_29 (by decide) rfl) rfl rfl ?_
  refine qr_goto 2036 (qf_29 (by decide) rfl) rfl ?_
  exact lw_end hL hi rx (hk _ _ _ _ ⟨hI2, by omega, by omega, by omega, hZ_2, hRb, hK_2, hT_2, hF_2, hP_2, hH_2, hD_2, hN_2, hB_2, hC_2, hS_2, hW_2⟩)
set_option maxHeartbeats 4000000 in
set_option maxRecDepth 20000 in
theorem lw_c39 {L : Nat} {xs : Nat → Int} {vb : Bool} {i : Int} {σ α : Nat → Nat → Int} {κ : Nat → Option Nat} {ρ : Nat} (hL : L ≤ 3072) (hi : 0 ≤ i ∧ i + 6 ≤ (L : Int)) (rx : ∀ k, -2147483648 ≤ xs k ∧ xs k ≤ 2147483647) (hJ : lw_J i σ α κ ρ) (hk : ∀ σ' α' κ' ρ', lw_J (i + 6) σ' α' κ' ρ' → qr_W (qe L xs vb) 100 qx_e0 lw_Q0 (18, [(3, .int (qz (i + 6))), (2, .ref 86), (1, .ref 16), (0, .ref 0)], [], qw σ' α' κ' ρ', 109, 19340)) : qr_W (qe L xs vb) 100 qx_e0 lw_Q0 (1980, [(3, .int (qz i)), (2, .ref 86), (1, .ref 16), (0, .ref 0)], [], qw σ α κ ρ, 109, 19340) := by
  obtain ⟨hI, hj0, hj1, hj2, hZ, hR, hK, hT, hF, hP, hH, hD, hN, hB, hC, hS, hW⟩ := hJ
  refine qr_aload_n 1981 (qf_29 (by decide) rfl) rfl rfl ?_
  refine qr_aload_n 1982 (qf_29 (by decide) rfl) rfl rfl ?_
  refine qr_iload_n 1983 (qf_29 (by decide) rfl) rfl rfl ?_
  refine qr_iconst 1984 (qf_29 (by decide) rfl) rfl ?_
  refine qr_iadd 1985 (qf_29 (by decide) rfl) rfl ?_
  refine qr_iaload 1986 (qf_29 (by decide) rfl) rfl (by omega) (by omega) rfl ?_
  refine qy_v (xs ((i + 1) : Int).toNat) rfl ?_
  refine qr_aload_n 1987 (qf_29 (by decide) rfl) rfl rfl ?_
  refine qr_iload_n 1988 (qf_29 (by decide) rfl) rfl rfl ?_
  refine qr_iconst 1989 (qf_29 (by decide) rfl) rfl ?_
  refine qr_iadd 1990 (qf_29 (by decide) rfl) rfl ?_
  refine qr_iaload 1991 (qf_30 (by decide) rfl) rfl (by omega) (by omega) rfl ?_
  refine qy_v (xs ((i + 2) : Int).toNat) rfl ?_
  refine qr_call 1994 109 19340 (qf_30 (by decide) rfl) rfl (Nat.le_of_ble_eq_true rfl) (Nat.le_of_ble_eq_true rfl) rfl rfl (sf_167_16 (d := 98) hI (rx _) (rx _)) ?_
  rintro _ _ ⟨rfl, v1, rfl, hv1⟩
  show qr_W (qe L xs vb) 100 qx_e0 lw_Q0 (1994, [(3, .int (qz i)), (2, .ref 86), (1, .ref 16), (0, .ref 0)], [.int (qz v1)], qw σ α κ ρ, 109, 19340)
  refine qr_pop 1995 (qf_30 (by decide) rfl) rfl rfl ?_
  refine qr_aload_n 1996 (qf_30 (by decide) rfl) rfl rfl ?_
  refine qr_aload_n 1997 (qf_30 (by decide) rfl) rfl rfl ?_
  refine qr_iload_n 1998 (qf_30 (by decide) rfl) rfl rfl ?_
  refine qr_iconst 1999 (qf_30 (by decide) rfl) rfl ?_
  refine qr_iadd 2000 (qf_30 (by decide) rfl) rfl ?_
  refine qr_iaload 2001 (qf_30 (by decide) rfl) rfl (by omega) (by omega) rfl ?_
  refine qy_v (xs ((i + 1) : Int).toNat) rfl ?_
  refine qr_aload_n 2002 (qf_30 (by decide) rfl) rfl rfl ?_
  refine qr_iload_n 2003 (qf_30 (by decide) rfl) rfl rfl ?_
  refine qr_iconst 2004 (qf_30 (by decide) rfl) rfl ?_
  refine qr_iadd 2005 (qf_30 (by decide) rfl) rfl ?_
  refine qr_iaload 2006 (qf_30 (by decide) rfl) rfl (by omega) (by omega) rfl ?_
  refine qy_v (xs ((i + 2) : Int).toNat) rfl ?_
  refine qr_call 2009 109 19340 (qf_30 (by decide) rfl) rfl (Nat.le_of_ble_eq_true rfl) (Nat.le_of_ble_eq_true rfl) rfl rfl (sf_269_86 (d := 97) hI (rx _) (rx _)) ?_
  rintro _ _ ⟨rfl, v2, rfl, hv2⟩
  show qr_W (qe L xs vb) 100 qx_e0 lw_Q0 (2009, [(3, .int (qz i)), (2, .ref 86), (1, .ref 16), (0, .ref 0)], [.int (qz v2)], qw σ α κ ρ, 109, 19340)
  refine qr_pop 2010 (qf_30 (by decide) rfl) rfl rfl ?_
  refine qr_goto 2036 (qf_30 (by decide) rfl) rfl ?_
  exact lw_end hL hi rx (hk _ _ _ _ ⟨hI, by omega, by omega, by omega, hZ, hR, hK, hT, hF, hP, hH, hD, hN, hB, hC, hS, hW⟩)
set_option maxHeartbeats 4000000 in
set_option maxRecDepth 20000 in
theorem lw_c40 {L : Nat} {xs : Nat → Int} {vb : Bool} {i : Int} {σ α : Nat → Nat → Int} {κ : Nat → Option Nat} {ρ : Nat} (hL : L ≤ 3072) (hi : 0 ≤ i ∧ i + 6 ≤ (L : Int)) (rx : ∀ k, -2147483648 ≤ xs k ∧ xs k ≤ 2147483647) (hJ : lw_J i σ α κ ρ) (hk : ∀ σ' α' κ' ρ', lw_J (i + 6) σ' α' κ' ρ' → qr_W (qe L xs vb) 100 qx_e0 lw_Q0 (18, [(3, .int (qz (i + 6))), (2, .ref 86), (1, .ref 16), (0, .ref 0)], [], qw σ' α' κ' ρ', 109, 19340)) : qr_W (qe L xs vb) 100 qx_e0 lw_Q0 (2013, [(3, .int (qz i)), (2, .ref 86), (1, .ref 16), (0, .ref 0)], [], qw σ α κ ρ, 109, 19340) := by
  obtain ⟨hI, hj0, hj1, hj2, hZ, hR, hK, hT, hF, hP, hH, hD, hN, hB, hC, hS, hW⟩ := hJ
  refine qr_aload_n 2014 (qf_30 (by decide) rfl) rfl rfl ?_
  refine qr_aload_n 2015 (qf_30 (by decide) rfl) rfl rfl ?_
  refine qr_iload_n 2016 (qf_30 (by decide) rfl) rfl rfl ?_
  refine qr_iconst 2017 (qf_30 (by decide) rfl) rfl ?_
  refine qr_iadd 2018 (qf_30 (by decide) rfl) rfl ?_
  refine qr_iaload 2019 (qf_30 (by decide) rfl) rfl (by omega) (by omega) rfl ?_
  refine qy_v (xs ((i + 1) : Int).toNat) rfl ?_
  refine qr_call 2022 109 19340 (qf_30 (by decide) rfl) rfl (Nat.le_of_ble_eq_true rfl) (Nat.le_of_ble_eq_true rfl) rfl rfl (sf_170_16 (d := 98) hI (rx _)) ?_
  rintro _ _ ⟨rfl, v1, rfl, hv1⟩
  show qr_W (qe L xs vb) 100 qx_e0 lw_Q0 (2022, [(3, .int (qz i)), (2, .ref 86), (1, .ref 16), (0, .ref 0)], [.int (qz v1)], qw σ α κ ρ, 109, 19340)
  refine qr_pop 2023 (qf_30 (by decide) rfl) rfl rfl ?_
  refine qr_aload_n 2024 (qf_30 (by decide) rfl) rfl rfl ?_
  refine qr_aload_n 2025 (qf_30 (by decide) rfl) rfl rfl ?_
  refine qr_iload_n 2026 (qf_30 (by decide) rfl) rfl rfl ?_
  refine qr_iconst 2027 (qf_30 (by decide) rfl) rfl ?_
  refine qr_iadd 2028 (qf_30 (by decide) rfl) rfl ?_
  refine qr_iaload 2029 (qf_30 (by decide) rfl) rfl (by omega) (by omega) rfl ?_
  refine qy_v (xs ((i + 1) : Int).toNat) rfl ?_
  refine qr_call 2032 109 19340 (qf_30 (by decide) rfl) rfl (Nat.le_of_ble_eq_true rfl) (Nat.le_of_ble_eq_true rfl) rfl rfl (sf_271_86 (d := 98) hI (rx _)) ?_
  rintro _ _ ⟨rfl, v2, rfl, hv2⟩
  show qr_W (qe L xs vb) 100 qx_e0 lw_Q0 (2032, [(3, .int (qz i)), (2, .ref 86), (1, .ref 16), (0, .ref 0)], [.int (qz v2)], qw σ α κ ρ, 109, 19340)
  refine qr_pop 2033 (qf_30 (by decide) rfl) rfl rfl ?_
  refine qr_goto 2036 (qf_30 (by decide) rfl) rfl ?_
  exact lw_end hL hi rx (hk _ _ _ _ ⟨hI, by omega, by omega, by omega, hZ, hR, hK, hT, hF, hP, hH, hD, hN, hB, hC, hS, hW⟩)
set_option maxHeartbeats 4000000 in
set_option maxRecDepth 20000 in
theorem lw_iter {L : Nat} {xs : Nat → Int} {vb : Bool} {i : Int} {σ α : Nat → Nat → Int} {κ : Nat → Option Nat} {ρ : Nat} (hL : L ≤ 3072) (hi : 0 ≤ i ∧ i + 6 ≤ (L : Int)) (rx : ∀ k, -2147483648 ≤ xs k ∧ xs k ≤ 2147483647) (hJ : lw_J i σ α κ ρ) (hk : ∀ σ' α' κ' ρ', lw_J (i + 6) σ' α' κ' ρ' → qr_W (qe L xs vb) 100 qx_e0 lw_Q0 (18, [(3, .int (qz (i + 6))), (2, .ref 86), (1, .ref 16), (0, .ref 0)], [], qw σ' α' κ' ρ', 109, 19340)) : qr_W (qe L xs vb) 100 qx_e0 lw_Q0 (27, [(3, .int (qz i)), (2, .ref 86), (1, .ref 16), (0, .ref 0)], [], qw σ α κ ρ, 109, 19340) := by
  refine qr_aload_n 28 (qf_0 (by decide) rfl) rfl rfl ?_
  refine qr_iload_n 29 (qf_0 (by decide) rfl) rfl rfl ?_
  refine qr_iaload 30 (qf_0 (by decide) rfl) rfl (by omega) (by omega) rfl ?_
  refine qr_bipush 32 (qf_0 (by decide) rfl) (by decide) rfl ?_
  refine qr_iand 33 (qf_0 (by decide) rfl) rfl ?_
  refine qr_topI (fun v hv => ?_)
  have hr : -2147483648 ≤ v ∧ v ≤ 2147483647 := by rw [hv]; exact qz_and_r _ _
  have h : v = 0 ∨ v = 1 ∨ v = 2 ∨ v = 3 ∨ v = 4 ∨ v = 5 ∨ v = 6 ∨ v = 7 ∨ v = 8 ∨ v = 9 ∨ v = 10 ∨ v = 11 ∨ v = 12 ∨ v = 13 ∨ v = 14 ∨ v = 15 ∨ v = 16 ∨ v = 17 ∨ v = 18 ∨ v = 19 ∨ v = 20 ∨ v = 21 ∨ v = 22 ∨ v = 23 ∨ v = 24 ∨ v = 25 ∨ v = 26 ∨ v = 27 ∨ v = 28 ∨ v = 29 ∨ v = 30 ∨ v = 31 ∨ v = 32 ∨ v = 33 ∨ v = 34 ∨ v = 35 ∨ v = 36 ∨ v = 37 ∨ v = 38 ∨ v = 39 ∨ v = 40 ∨ (v < 0 ∨ 40 < v) := by omega
  rcases h with h | h | h | h | h | h | h | h | h | h | h | h | h | h | h | h | h | h | h | h | h | h | h | h | h | h | h | h | h | h | h | h | h | h | h | h | h | h | h | h | h | h
  · exact qr_tabIn 212 (qf_0 (by decide) rfl) hr (by omega) (by rw [h]; rfl) rfl (lw_c0 hL hi rx hJ hk)
  · exact qr_tabIn 255 (qf_0 (by decide) rfl) hr (by omega) (by rw [h]; rfl) rfl (lw_c1 hL hi rx hJ hk)
  · exact qr_tabIn 298 (qf_0 (by decide) rfl) hr (by omega) (by rw [h]; rfl) rfl (lw_c2 hL hi rx hJ hk)
  · exact qr_tabIn 331 (qf_0 (by decide) rfl) hr (by omega) (by rw [h]; rfl) rfl (lw_c3 hL hi rx hJ hk)
  · exact qr_tabIn 364 (qf_0 (by decide) rfl) hr (by omega) (by rw [h]; rfl) rfl (lw_c4 hL hi rx hJ hk)
  · exact qr_tabIn 397 (qf_0 (by decide) rfl) hr (by omega) (by rw [h]; rfl) rfl (lw_c5 hL hi rx hJ hk)
  · exact qr_tabIn 430 (qf_0 (by decide) rfl) hr (by omega) (by rw [h]; rfl) rfl (lw_c6 hL hi rx hJ hk)
  · exact qr_tabIn 473 (qf_0 (by decide) rfl) hr (by omega) (by rw [h]; rfl) rfl (lw_c7 hL hi rx hJ hk)
  · exact qr_tabIn 506 (qf_0 (by decide) rfl) hr (by omega) (by rw [h]; rfl) rfl (lw_c8 hL hi rx hJ hk)
  · exact qr_tabIn 559 (qf_0 (by decide) rfl) hr (by omega) (by rw [h]; rfl) rfl (lw_c9 hL hi rx hJ hk)
  · exact qr_tabIn 642 (qf_0 (by decide) rfl) hr (by omega) (by rw [h]; rfl) rfl (lw_c10 hL hi rx hJ hk)
  · exact qr_tabIn 675 (qf_0 (by decide) rfl) hr (by omega) (by rw [h]; rfl) rfl (lw_c11 hL hi rx hJ hk)
  · exact qr_tabIn 718 (qf_0 (by decide) rfl) hr (by omega) (by rw [h]; rfl) rfl (lw_c12 hL hi rx hJ hk)
  · exact qr_tabIn 761 (qf_0 (by decide) rfl) hr (by omega) (by rw [h]; rfl) rfl (lw_c13 hL hi rx hJ hk)
  · exact qr_tabIn 794 (qf_0 (by decide) rfl) hr (by omega) (by rw [h]; rfl) rfl (lw_c14 hL hi rx hJ hk)
  · exact qr_tabIn 827 (qf_0 (by decide) rfl) hr (by omega) (by rw [h]; rfl) rfl (lw_c15 hL hi rx hJ hk)
  · exact qr_tabIn 860 (qf_0 (by decide) rfl) hr (by omega) (by rw [h]; rfl) rfl (lw_c16 hL hi rx hJ hk)
  · exact qr_tabIn 883 (qf_0 (by decide) rfl) hr (by omega) (by rw [h]; rfl) rfl (lw_c17 hL hi rx hJ hk)
  · exact qr_tabIn 956 (qf_0 (by decide) rfl) hr (by omega) (by rw [h]; rfl) rfl (lw_c18 hL hi rx hJ hk)
  · exact qr_tabIn 1029 (qf_0 (by decide) rfl) hr (by omega) (by rw [h]; rfl) rfl (lw_c19 hL hi rx hJ hk)
  · exact qr_tabIn 1062 (qf_0 (by decide) rfl) hr (by omega) (by rw [h]; rfl) rfl (lw_c20 hL hi rx hJ hk)
  · exact qr_tabIn 1165 (qf_0 (by decide) rfl) hr (by omega) (by rw [h]; rfl) rfl (lw_c21 hL hi rx hJ hk)
  · exact qr_tabIn 1238 (qf_0 (by decide) rfl) hr (by omega) (by rw [h]; rfl) rfl (lw_c22 hL hi rx hJ hk)
  · exact qr_tabIn 1312 (qf_0 (by decide) rfl) hr (by omega) (by rw [h]; rfl) rfl (lw_c23 hL hi rx hJ hk)
  · exact qr_tabIn 1345 (qf_0 (by decide) rfl) hr (by omega) (by rw [h]; rfl) rfl (lw_c24 hL hi rx hJ hk)
  · exact qr_tabIn 1418 (qf_0 (by decide) rfl) hr (by omega) (by rw [h]; rfl) rfl (lw_c25 hL hi rx hJ hk)
  · exact qr_tabIn 1501 (qf_0 (by decide) rfl) hr (by omega) (by rw [h]; rfl) rfl (lw_c26 hL hi rx hJ hk)
  · exact qr_tabIn 1524 (qf_0 (by decide) rfl) hr (by omega) (by rw [h]; rfl) rfl (lw_c27 hL hi rx hJ hk)
  · exact qr_tabIn 1537 (qf_0 (by decide) rfl) hr (by omega) (by rw [h]; rfl) rfl (lw_c28 hL hi rx hJ hk)
  · exact qr_tabIn 1600 (qf_0 (by decide) rfl) hr (by omega) (by rw [h]; rfl) rfl (lw_c29 hL hi rx hJ hk)
  · exact qr_tabIn 1643 (qf_0 (by decide) rfl) hr (by omega) (by rw [h]; rfl) rfl (lw_c30 hL hi rx hJ hk)
  · exact qr_tabIn 1656 (qf_0 (by decide) rfl) hr (by omega) (by rw [h]; rfl) rfl (lw_c31 hL hi rx hJ hk)
  · exact qr_tabIn 1669 (qf_0 (by decide) rfl) hr (by omega) (by rw [h]; rfl) rfl (lw_c32 hL hi rx hJ hk)
  · exact qr_tabIn 1712 (qf_0 (by decide) rfl) hr (by omega) (by rw [h]; rfl) rfl (lw_c33 hL hi rx hJ hk)
  · exact qr_tabIn 1735 (qf_0 (by decide) rfl) hr (by omega) (by rw [h]; rfl) rfl (lw_c34 hL hi rx hJ hk)
  · exact qr_tabIn 1768 (qf_0 (by decide) rfl) hr (by omega) (by rw [h]; rfl) rfl (lw_c35 hL hi rx hJ hk)
  · exact qr_tabIn 1811 (qf_0 (by decide) rfl) hr (by omega) (by rw [h]; rfl) rfl (lw_c36 hL hi rx hJ hk)
  · exact qr_tabIn 1884 (qf_0 (by decide) rfl) hr (by omega) (by rw [h]; rfl) rfl (lw_c37 hL hi rx hJ hk)
  · exact qr_tabIn 1917 (qf_0 (by decide) rfl) hr (by omega) (by rw [h]; rfl) rfl (lw_c38 hL hi rx hJ hk)
  · exact qr_tabIn 1980 (qf_0 (by decide) rfl) hr (by omega) (by rw [h]; rfl) rfl (lw_c39 hL hi rx hJ hk)
  · exact qr_tabIn 2013 (qf_0 (by decide) rfl) hr (by omega) (by rw [h]; rfl) rfl (lw_c40 hL hi rx hJ hk)
  · exact qr_tabOut 2036 (qf_0 (by decide) rfl) hr (by omega) rfl (lw_end hL hi rx (hk _ _ _ _ (lw_J6 hJ)))
set_option maxHeartbeats 4000000 in
set_option maxRecDepth 20000 in
theorem lw_loop0 {L : Nat} {xs : Nat → Int} {vb : Bool} (hL : L ≤ 3072) {i : Int} {w : qm_W} (h0 : 0 ≤ i) (hi : (L : Int) < i + 6 ∧ i ≤ 3078) : qr_W (qe L xs vb) 100 qx_e0 lw_Q0 (18, [(3, .int (qz i)), (2, .ref 86), (1, .ref 16), (0, .ref 0)], [], w, 109, 19340) := by
  refine qr_iload_n 19 (qf_0 (by decide) rfl) rfl rfl ?_
  refine qr_aload_n 20 (qf_0 (by decide) rfl) rfl rfl ?_
  refine qr_alen 21 (qf_0 (by decide) rfl) rfl (Or.inl (by decide)) rfl ?_
  refine qr_bipush 23 (qf_0 (by decide) rfl) (by decide) rfl ?_
  refine qr_isub 24 (qf_0 (by decide) rfl) rfl ?_
  refine qr_icmp_gt 2042 27 (qf_0 (by decide) rfl) rfl rfl (by omega) (by omega) (fun _ => ?_) (fun h => False.elim (by omega))
  refine qr_iconst 2043 (qf_30 (by decide) rfl) rfl ?_
  exact qr_retZ (qf_30 (by decide) rfl) rfl (by omega) (Nat.le_of_ble_eq_true rfl) (Nat.le_of_ble_eq_true rfl) rfl
set_option maxHeartbeats 4000000 in
set_option maxRecDepth 20000 in
theorem lw_loop {L : Nat} {xs : Nat → Int} {vb : Bool} (hL : L ≤ 3072) (rx : ∀ k, -2147483648 ≤ xs k ∧ xs k ≤ 2147483647) : ∀ (n : Nat) (i : Int) (σ α : Nat → Nat → Int) (κ : Nat → Option Nat) (ρ : Nat), (0 ≤ i ∧ (L : Int) - i < (n : Int) ∧ i ≤ 3078) → lw_J i σ α κ ρ → qr_W (qe L xs vb) 100 qx_e0 lw_Q0 (18, [(3, .int (qz i)), (2, .ref 86), (1, .ref 16), (0, .ref 0)], [], qw σ α κ ρ, 109, 19340) := by
  intro n
  induction n with
  | zero => intro i σ α κ ρ hn hJ; exact lw_loop0 hL hn.1 (by omega)
  | succ n ih =>
    intro i σ α κ ρ hn hJ
    refine qr_iload_n 19 (qf_0 (by decide) rfl) rfl rfl ?_
    refine qr_aload_n 20 (qf_0 (by decide) rfl) rfl rfl ?_
    refine qr_alen 21 (qf_0 (by decide) rfl) rfl (Or.inl (by decide)) rfl ?_
    refine qr_bipush 23 (qf_0 (by decide) rfl) (by decide) rfl ?_
    refine qr_isub 24 (qf_0 (by decide) rfl) rfl ?_
    refine qr_icmp_gt 2042 27 (qf_0 (by decide) rfl) rfl rfl (by omega) (by omega) (fun _ => ?_) (fun h => ?_)
    · skip
      refine qr_iconst 2043 (qf_30 (by decide) rfl) rfl ?_
      exact qr_retZ (qf_30 (by decide) rfl) rfl (by omega) (Nat.le_of_ble_eq_true rfl) (Nat.le_of_ble_eq_true rfl) rfl
    · exact lw_iter hL (by omega) rx hJ (fun σ' α' κ' ρ' hJ' => ih (i + 6) σ' α' κ' ρ' (by omega) hJ')
set_option maxHeartbeats 4000000 in
set_option maxRecDepth 20000 in
theorem lw_small {L : Nat} {xs : Nat → Int} {vb : Bool} (hL : L ≤ 3072) (rx : ∀ k, -2147483648 ≤ xs k ∧ xs k ≤ 2147483647) : qr_W (qe L xs vb) 100 qx_e0 lw_Q0 (0, [(0, .ref 0)], [], [], 0, 0) := by
  refine qr_new [.inr (0, [.null, .null, .null, .null, .null, .null, .null, .null, .null, .null, .null, .null, .null, .null, .null, .int (qz 0)])] 3 1 16 (qf_0 (by decide) rfl) rfl (Nat.le_of_ble_eq_true rfl) (Nat.le_of_ble_eq_true rfl) rfl rfl rfl 16 rfl rfl ?_
  refine qr_dup 4 (qf_0 (by decide) rfl) rfl rfl ?_
  refine qr_call 7 70 11092 (qf_0 (by decide) rfl) rfl (Nat.le_of_ble_eq_true rfl) (Nat.le_of_ble_eq_true rfl) rfl rfl (si_Roof2 (d := 42)) ?_
  rintro _ _ ⟨rfl, s, g, rfl, hok, hcu⟩
  show qr_W (qe L xs vb) 100 qx_e0 lw_Q0 (7, [(0, .ref 0)], [.ref 16], (qw (qo_s s) (qo_r g) qo_k 82).take 70, 70, 11092)
  refine qr_astore_n [(1, .ref 16), (0, .ref 0)] 8 (qf_0 (by decide) rfl) (by decide) rfl rfl ?_
  refine qr_new ((qw (qo_s s) (qo_r g) qo_k 82).take 70 ++ [.inr (12, [.null, .null, .null, .null, .int (qz 0), .int (qz 0), .int (qz 0), .null, .null, .null, .long (ql 0), .int (qz 0), .null, .null, .null, .int (qz 0), .int (qz 0), .null, .null, .null, .null, .null, .long (ql 0), .int (qz 0), .int (qz 0), .null, .null, .null, .null, .long (ql 0), .int (qz 0), .null, .int (qz 0), .null, .null, .int (qz 0), .int (qz 0), .int (qz 0), .int (qz 0), .int (qz 0), .null, .int (qz 0), .null, .int (qz 0), .null, .null, .null, .null, .null, .null, .int (qz 0), .long (ql 0), .null, .null, .null, .null, .int (qz 0), .int (qz 0), .int (qz 0), .null, .null, .null, .null])]) 11 71 11155 (qf_0 (by decide) rfl) rfl (Nat.le_of_ble_eq_true rfl) (Nat.le_of_ble_eq_true rfl) rfl rfl rfl 86 rfl rfl ?_
  refine qr_dup 12 (qf_0 (by decide) rfl) rfl rfl ?_
  refine qr_call 15 109 19340 (qf_0 (by decide) rfl) rfl (Nat.le_of_ble_eq_true rfl) (Nat.le_of_ble_eq_true rfl) rfl rfl (si_Model (d := 99) (u := (qw (qo_s s) (qo_r g) qo_k 82).take 70) (a := 86) rfl) ?_
  rintro _ _ ⟨rfl, rfl⟩
  show qr_W (qe L xs vb) 100 qx_e0 lw_Q0 (15, [(1, .ref 16), (0, .ref 0)], [.ref 86], _, 109, 19340)
  refine qy_w (qw (qo_s s) (qo_r g) qo_k 82) rfl ?_
  refine qr_astore_n [(2, .ref 86), (1, .ref 16), (0, .ref 0)] 16 (qf_0 (by decide) rfl) (by decide) rfl rfl ?_
  refine qr_iconst 17 (qf_0 (by decide) rfl) rfl ?_
  refine qr_istore_n [(3, .int (qz 0)), (2, .ref 86), (1, .ref 16), (0, .ref 0)] 18 (qf_0 (by decide) rfl) (by decide) rfl rfl ?_
  rw [qJ_w s g]
  exact lw_loop hL rx (L + 1) 0 _ _ _ _ (by omega) ⟨qJ_I hok, (show (0 : Int) ≤ 60 by decide), rfl, (show (0 : Int) ≤ 0 ∧ (0 : Int) ≤ 1152 * 0 by decide), qPZ_0 s g, qRR_0 hok hcu⟩
