theorem qf_app {a b : qm_C} {pc m : Nat} {q : qm_I} (ha : a.all (fun q => decide (q.1 < m)) = true) (hm : m ≤ pc) (h : qm_fetch b pc = some q) : qm_fetch (a ++ b) pc = some q := by
  rw [qm_fetch_eq] at h ⊢
  rw [List.find?_append, List.find?_eq_none.mpr (fun q hq => ?_), Option.none_or, h]
  have h2 := List.all_eq_true.mp ha q hq
  rw [decide_eq_true_eq] at h2
  intro h3
  have h4 : q.1 = pc := by simpa using h3
  omega
theorem qf_here {a b : qm_C} {pc : Nat} {q : qm_I} (h : qm_fetch a pc = some q) : qm_fetch (a ++ b) pc = some q := by
  rw [qm_fetch_eq] at h ⊢
  rw [List.find?_append, h]
  rfl
theorem qa_0 : qx_c0_0.all (fun q => decide (q.1 < 242)) = true := by decide +kernel
theorem qa_1 : qx_c0_1.all (fun q => decide (q.1 < 302)) = true := by decide +kernel
theorem qa_2 : qx_c0_2.all (fun q => decide (q.1 < 364)) = true := by decide +kernel
theorem qa_3 : qx_c0_3.all (fun q => decide (q.1 < 422)) = true := by decide +kernel
theorem qa_4 : qx_c0_4.all (fun q => decide (q.1 < 482)) = true := by decide +kernel
theorem qa_5 : qx_c0_5.all (fun q => decide (q.1 < 540)) = true := by decide +kernel
theorem qa_6 : qx_c0_6.all (fun q => decide (q.1 < 599)) = true := by decide +kernel
theorem qa_7 : qx_c0_7.all (fun q => decide (q.1 < 658)) = true := by decide +kernel
theorem qa_8 : qx_c0_8.all (fun q => decide (q.1 < 718)) = true := by decide +kernel
theorem qa_9 : qx_c0_9.all (fun q => decide (q.1 < 776)) = true := by decide +kernel
theorem qa_10 : qx_c0_10.all (fun q => decide (q.1 < 836)) = true := by decide +kernel
theorem qa_11 : qx_c0_11.all (fun q => decide (q.1 < 899)) = true := by decide +kernel
theorem qa_12 : qx_c0_12.all (fun q => decide (q.1 < 960)) = true := by decide +kernel
theorem qa_13 : qx_c0_13.all (fun q => decide (q.1 < 1018)) = true := by decide +kernel
theorem qa_14 : qx_c0_14.all (fun q => decide (q.1 < 1081)) = true := by decide +kernel
theorem qa_15 : qx_c0_15.all (fun q => decide (q.1 < 1140)) = true := by decide +kernel
theorem qa_16 : qx_c0_16.all (fun q => decide (q.1 < 1201)) = true := by decide +kernel
theorem qa_17 : qx_c0_17.all (fun q => decide (q.1 < 1261)) = true := by decide +kernel
theorem qa_18 : qx_c0_18.all (fun q => decide (q.1 < 1320)) = true := by decide +kernel
theorem qa_19 : qx_c0_19.all (fun q => decide (q.1 < 1381)) = true := by decide +kernel
theorem qa_20 : qx_c0_20.all (fun q => decide (q.1 < 1439)) = true := by decide +kernel
theorem qa_21 : qx_c0_21.all (fun q => decide (q.1 < 1498)) = true := by decide +kernel
theorem qa_22 : qx_c0_22.all (fun q => decide (q.1 < 1565)) = true := by decide +kernel
theorem qa_23 : qx_c0_23.all (fun q => decide (q.1 < 1626)) = true := by decide +kernel
theorem qa_24 : qx_c0_24.all (fun q => decide (q.1 < 1694)) = true := by decide +kernel
theorem qa_25 : qx_c0_25.all (fun q => decide (q.1 < 1756)) = true := by decide +kernel
theorem qa_26 : qx_c0_26.all (fun q => decide (q.1 < 1816)) = true := by decide +kernel
theorem qa_27 : qx_c0_27.all (fun q => decide (q.1 < 1872)) = true := by decide +kernel
theorem qa_28 : qx_c0_28.all (fun q => decide (q.1 < 1934)) = true := by decide +kernel
theorem qa_29 : qx_c0_29.all (fun q => decide (q.1 < 1990)) = true := by decide +kernel
theorem qf_0 {pc : Nat} {q : qm_I} (hm : 0 ≤ pc) (h : qm_fetch qx_c0_0 pc = some q) : qm_fetch qx_e0.2.2.2.2.2.2.2 pc = some q := qf_here h
theorem qf_1 {pc : Nat} {q : qm_I} (hm : 242 ≤ pc) (h : qm_fetch qx_c0_1 pc = some q) : qm_fetch qx_e0.2.2.2.2.2.2.2 pc = some q := qf_app qa_0 (Nat.le_trans (by decide) hm) (qf_here h)
theorem qf_2 {pc : Nat} {q : qm_I} (hm : 302 ≤ pc) (h : qm_fetch qx_c0_2 pc = some q) : qm_fetch qx_e0.2.2.2.2.2.2.2 pc = some q := qf_app qa_0 (Nat.le_trans (by decide) hm) (qf_app qa_1 (Nat.le_trans (by decide) hm) (qf_here h))
theorem qf_3 {pc : Nat} {q : qm_I} (hm : 364 ≤ pc) (h : qm_fetch qx_c0_3 pc = some q) : qm_fetch qx_e0.2.2.2.2.2.2.2 pc = some q := qf_app qa_0 (Nat.le_trans (by decide) hm) (qf_app qa_1 (Nat.le_trans (by decide) hm) (qf_app qa_2 (Nat.le_trans (by decide) hm) (qf_here h)))
theorem qf_4 {pc : Nat} {q : qm_I} (hm : 422 ≤ pc) (h : qm_fetch qx_c0_4 pc = some q) : qm_fetch qx_e0.2.2.2.2.2.2.2 pc = some q := qf_app qa_0 (Nat.le_trans (by decide) hm) (qf_app qa_1 (Nat.le_trans (by decide) hm) (qf_app qa_2 (Nat.le_trans (by decide) hm) (qf_app qa_3 (Nat.le_trans (by decide) hm) (qf_here h))))
theorem qf_5 {pc : Nat} {q : qm_I} (hm : 482 ≤ pc) (h : qm_fetch qx_c0_5 pc = some q) : qm_fetch qx_e0.2.2.2.2.2.2.2 pc = some q := qf_app qa_0 (Nat.le_trans (by decide) hm) (qf_app qa_1 (Nat.le_trans (by decide) hm) (qf_app qa_2 (Nat.le_trans (by decide) hm) (qf_app qa_3 (Nat.le_trans (by decide) hm) (qf_app qa_4 (Nat.le_trans (by decide) hm) (qf_here h)))))
theorem qf_6 {pc : Nat} {q : qm_I} (hm : 540 ≤ pc) (h : qm_fetch qx_c0_6 pc = some q) : qm_fetch qx_e0.2.2.2.2.2.2.2 pc = some q := qf_app qa_0 (Nat.le_trans (by decide) hm) (qf_app qa_1 (Nat.le_trans (by decide) hm) (qf_app qa_2 (Nat.le_trans (by decide) hm) (qf_app qa_3 (Nat.le_trans (by decide) hm) (qf_app qa_4 (Nat.le_trans (by decide) hm) (qf_app qa_5 (Nat.le_trans (by decide) hm) (qf_here h))))))
theorem qf_7 {pc : Nat} {q : qm_I} (hm : 599 ≤ pc) (h : qm_fetch qx_c0_7 pc = some q) : qm_fetch qx_e0.2.2.2.2.2.2.2 pc = some q := qf_app qa_0 (Nat.le_trans (by decide) hm) (qf_app qa_1 (Nat.le_trans (by decide) hm) (qf_app qa_2 (Nat.le_trans (by decide) hm) (qf_app qa_3 (Nat.le_trans (by decide) hm) (qf_app qa_4 (Nat.le_trans (by decide) hm) (qf_app qa_5 (Nat.le_trans (by decide) hm) (qf_app qa_6 (Nat.le_trans (by decide) hm) (qf_here h)))))))
theorem qf_8 {pc : Nat} {q : qm_I} (hm : 658 ≤ pc) (h : qm_fetch qx_c0_8 pc = some q) : qm_fetch qx_e0.2.2.2.2.2.2.2 pc = some q := qf_app qa_0 (Nat.le_trans (by decide) hm) (qf_app qa_1 (Nat.le_trans (by decide) hm) (qf_app qa_2 (Nat.le_trans (by decide) hm) (qf_app qa_3 (Nat.le_trans (by decide) hm) (qf_app qa_4 (Nat.le_trans (by decide) hm) (qf_app qa_5 (Nat.le_trans (by decide) hm) (qf_app qa_6 (Nat.le_trans (by decide) hm) (qf_app qa_7 (Nat.le_trans (by decide) hm) (qf_here h))))))))
theorem qf_9 {pc : Nat} {q : qm_I} (hm : 718 ≤ pc) (h : qm_fetch qx_c0_9 pc = some q) : qm_fetch qx_e0.2.2.2.2.2.2.2 pc = some q := qf_app qa_0 (Nat.le_trans (by decide) hm) (qf_app qa_1 (Nat.le_trans (by decide) hm) (qf_app qa_2 (Nat.le_trans (by decide) hm) (qf_app qa_3 (Nat.le_trans (by decide) hm) (qf_app qa_4 (Nat.le_trans (by decide) hm) (qf_app qa_5 (Nat.le_trans (by decide) hm) (qf_app qa_6 (Nat.le_trans (by decide) hm) (qf_app qa_7 (Nat.le_trans (by decide) hm) (qf_app qa_8 (Nat.le_trans (by decide) hm) (qf_here h)))))))))
theorem qf_10 {pc : Nat} {q : qm_I} (hm : 776 ≤ pc) (h : qm_fetch qx_c0_10 pc = some q) : qm_fetch qx_e0.2.2.2.2.2.2.2 pc = some q := qf_app qa_0 (Nat.le_trans (by decide) hm) (qf_app qa_1 (Nat.le_trans (by decide) hm) (qf_app qa_2 (Nat.le_trans (by decide) hm) (qf_app qa_3 (Nat.le_trans (by decide) hm) (qf_app qa_4 (Nat.le_trans (by decide) hm) (qf_app qa_5 (Nat.le_trans (by decide) hm) (qf_app qa_6 (Nat.le_trans (by decide) hm) (qf_app qa_7 (Nat.le_trans (by decide) hm) (qf_app qa_8 (Nat.le_trans (by decide) hm) (qf_app qa_9 (Nat.le_trans (by decide) hm) (qf_here h))))))))))
theorem qf_11 {pc : Nat} {q : qm_I} (hm : 836 ≤ pc) (h : qm_fetch qx_c0_11 pc = some q) : qm_fetch qx_e0.2.2.2.2.2.2.2 pc = some q := qf_app qa_0 (Nat.le_trans (by decide) hm) (qf_app qa_1 (Nat.le_trans (by decide) hm) (qf_app qa_2 (Nat.le_trans (by decide) hm) (qf_app qa_3 (Nat.le_trans (by decide) hm) (qf_app qa_4 (Nat.le_trans (by decide) hm) (qf_app qa_5 (Nat.le_trans (by decide) hm) (qf_app qa_6 (Nat.le_trans (by decide) hm) (qf_app qa_7 (Nat.le_trans (by decide) hm) (qf_app qa_8 (Nat.le_trans (by decide) hm) (qf_app qa_9 (Nat.le_trans (by decide) hm) (qf_app qa_10 (Nat.le_trans (by decide) hm) (qf_here h)))))))))))
theorem qf_12 {pc : Nat} {q : qm_I} (hm : 899 ≤ pc) (h : qm_fetch qx_c0_12 pc = some q) : qm_fetch qx_e0.2.2.2.2.2.2.2 pc = some q := qf_app qa_0 (Nat.le_trans (by decide) hm) (qf_app qa_1 (Nat.le_trans (by decide) hm) (qf_app qa_2 (Nat.le_trans (by decide) hm) (qf_app qa_3 (Nat.le_trans (by decide) hm) (qf_app qa_4 (Nat.le_trans (by decide) hm) (qf_app qa_5 (Nat.le_trans (by decide) hm) (qf_app qa_6 (Nat.le_trans (by decide) hm) (qf_app qa_7 (Nat.le_trans (by decide) hm) (qf_app qa_8 (Nat.le_trans (by decide) hm) (qf_app qa_9 (Nat.le_trans (by decide) hm) (qf_app qa_10 (Nat.le_trans (by decide) hm) (qf_app qa_11 (Nat.le_trans (by decide) hm) (qf_here h))))))))))))
theorem qf_13 {pc : Nat} {q : qm_I} (hm : 960 ≤ pc) (h : qm_fetch qx_c0_13 pc = some q) : qm_fetch qx_e0.2.2.2.2.2.2.2 pc = some q := qf_app qa_0 (Nat.le_trans (by decide) hm) (qf_app qa_1 (Nat.le_trans (by decide) hm) (qf_app qa_2 (Nat.le_trans (by decide) hm) (qf_app qa_3 (Nat.le_trans (by decide) hm) (qf_app qa_4 (Nat.le_trans (by decide) hm) (qf_app qa_5 (Nat.le_trans (by decide) hm) (qf_app qa_6 (Nat.le_trans (by decide) hm) (qf_app qa_7 (Nat.le_trans (by decide) hm) (qf_app qa_8 (Nat.le_trans (by decide) hm) (qf_app qa_9 (Nat.le_trans (by decide) hm) (qf_app qa_10 (Nat.le_trans (by decide) hm) (qf_app qa_11 (Nat.le_trans (by decide) hm) (qf_app qa_12 (Nat.le_trans (by decide) hm) (qf_here h)))))))))))))
theorem qf_14 {pc : Nat} {q : qm_I} (hm : 1018 ≤ pc) (h : qm_fetch qx_c0_14 pc = some q) : qm_fetch qx_e0.2.2.2.2.2.2.2 pc = some q := qf_app qa_0 (Nat.le_trans (by decide) hm) (qf_app qa_1 (Nat.le_trans (by decide) hm) (qf_app qa_2 (Nat.le_trans (by decide) hm) (qf_app qa_3 (Nat.le_trans (by decide) hm) (qf_app qa_4 (Nat.le_trans (by decide) hm) (qf_app qa_5 (Nat.le_trans (by decide) hm) (qf_app qa_6 (Nat.le_trans (by decide) hm) (qf_app qa_7 (Nat.le_trans (by decide) hm) (qf_app qa_8 (Nat.le_trans (by decide) hm) (qf_app qa_9 (Nat.le_trans (by decide) hm) (qf_app qa_10 (Nat.le_trans (by decide) hm) (qf_app qa_11 (Nat.le_trans (by decide) hm) (qf_app qa_12 (Nat.le_trans (by decide) hm) (qf_app qa_13 (Nat.le_trans (by decide) hm) (qf_here h))))))))))))))
theorem qf_15 {pc : Nat} {q : qm_I} (hm : 1081 ≤ pc) (h : qm_fetch qx_c0_15 pc = some q) : qm_fetch qx_e0.2.2.2.2.2.2.2 pc = some q := qf_app qa_0 (Nat.le_trans (by decide) hm) (qf_app qa_1 (Nat.le_trans (by decide) hm) (qf_app qa_2 (Nat.le_trans (by decide) hm) (qf_app qa_3 (Nat.le_trans (by decide) hm) (qf_app qa_4 (Nat.le_trans (by decide) hm) (qf_app qa_5 (Nat.le_trans (by decide) hm) (qf_app qa_6 (Nat.le_trans (by decide) hm) (qf_app qa_7 (Nat.le_trans (by decide) hm) (qf_app qa_8 (Nat.le_trans (by decide) hm) (qf_app qa_9 (Nat.le_trans (by decide) hm) (qf_app qa_10 (Nat.le_trans (by decide) hm) (qf_app qa_11 (Nat.le_trans (by decide) hm) (qf_app qa_12 (Nat.le_trans (by decide) hm) (qf_app qa_13 (Nat.le_trans (by decide) hm) (qf_app qa_14 (Nat.le_trans (by decide) hm) (qf_here h)))))))))))))))
theorem qf_16 {pc : Nat} {q : qm_I} (hm : 1140 ≤ pc) (h : qm_fetch qx_c0_16 pc = some q) : qm_fetch qx_e0.2.2.2.2.2.2.2 pc = some q := qf_app qa_0 (Nat.le_trans (by decide) hm) (qf_app qa_1 (Nat.le_trans (by decide) hm) (qf_app qa_2 (Nat.le_trans (by decide) hm) (qf_app qa_3 (Nat.le_trans (by decide) hm) (qf_app qa_4 (Nat.le_trans (by decide) hm) (qf_app qa_5 (Nat.le_trans (by decide) hm) (qf_app qa_6 (Nat.le_trans (by decide) hm) (qf_app qa_7 (Nat.le_trans (by decide) hm) (qf_app qa_8 (Nat.le_trans (by decide) hm) (qf_app qa_9 (Nat.le_trans (by decide) hm) (qf_app qa_10 (Nat.le_trans (by decide) hm) (qf_app qa_11 (Nat.le_trans (by decide) hm) (qf_app qa_12 (Nat.le_trans (by decide) hm) (qf_app qa_13 (Nat.le_trans (by decide) hm) (qf_app qa_14 (Nat.le_trans (by decide) hm) (qf_app qa_15 (Nat.le_trans (by decide) hm) (qf_here h))))))))))))))))
theorem qf_17 {pc : Nat} {q : qm_I} (hm : 1201 ≤ pc) (h : qm_fetch qx_c0_17 pc = some q) : qm_fetch qx_e0.2.2.2.2.2.2.2 pc = some q := qf_app qa_0 (Nat.le_trans (by decide) hm) (qf_app qa_1 (Nat.le_trans (by decide) hm) (qf_app qa_2 (Nat.le_trans (by decide) hm) (qf_app qa_3 (Nat.le_trans (by decide) hm) (qf_app qa_4 (Nat.le_trans (by decide) hm) (qf_app qa_5 (Nat.le_trans (by decide) hm) (qf_app qa_6 (Nat.le_trans (by decide) hm) (qf_app qa_7 (Nat.le_trans (by decide) hm) (qf_app qa_8 (Nat.le_trans (by decide) hm) (qf_app qa_9 (Nat.le_trans (by decide) hm) (qf_app qa_10 (Nat.le_trans (by decide) hm) (qf_app qa_11 (Nat.le_trans (by decide) hm) (qf_app qa_12 (Nat.le_trans (by decide) hm) (qf_app qa_13 (Nat.le_trans (by decide) hm) (qf_app qa_14 (Nat.le_trans (by decide) hm) (qf_app qa_15 (Nat.le_trans (by decide) hm) (qf_app qa_16 (Nat.le_trans (by decide) hm) (qf_here h)))))))))))))))))
theorem qf_18 {pc : Nat} {q : qm_I} (hm : 1261 ≤ pc) (h : qm_fetch qx_c0_18 pc = some q) : qm_fetch qx_e0.2.2.2.2.2.2.2 pc = some q := qf_app qa_0 (Nat.le_trans (by decide) hm) (qf_app qa_1 (Nat.le_trans (by decide) hm) (qf_app qa_2 (Nat.le_trans (by decide) hm) (qf_app qa_3 (Nat.le_trans (by decide) hm) (qf_app qa_4 (Nat.le_trans (by decide) hm) (qf_app qa_5 (Nat.le_trans (by decide) hm) (qf_app qa_6 (Nat.le_trans (by decide) hm) (qf_app qa_7 (Nat.le_trans (by decide) hm) (qf_app qa_8 (Nat.le_trans (by decide) hm) (qf_app qa_9 (Nat.le_trans (by decide) hm) (qf_app qa_10 (Nat.le_trans (by decide) hm) (qf_app qa_11 (Nat.le_trans (by decide) hm) (qf_app qa_12 (Nat.le_trans (by decide) hm) (qf_app qa_13 (Nat.le_trans (by decide) hm) (qf_app qa_14 (Nat.le_trans (by decide) hm) (qf_app qa_15 (Nat.le_trans (by decide) hm) (qf_app qa_16 (Nat.le_trans (by decide) hm) (qf_app qa_17 (Nat.le_trans (by decide) hm) (qf_here h))))))))))))))))))
theorem qf_19 {pc : Nat} {q : qm_I} (hm : 1320 ≤ pc) (h : qm_fetch qx_c0_19 pc = some q) : qm_fetch qx_e0.2.2.2.2.2.2.2 pc = some q := qf_app qa_0 (Nat.le_trans (by decide) hm) (qf_app qa_1 (Nat.le_trans (by decide) hm) (qf_app qa_2 (Nat.le_trans (by decide) hm) (qf_app qa_3 (Nat.le_trans (by decide) hm) (qf_app qa_4 (Nat.le_trans (by decide) hm) (qf_app qa_5 (Nat.le_trans (by decide) hm) (qf_app qa_6 (Nat.le_trans (by decide) hm) (qf_app qa_7 (Nat.le_trans (by decide) hm) (qf_app qa_8 (Nat.le_trans (by decide) hm) (qf_app qa_9 (Nat.le_trans (by decide) hm) (qf_app qa_10 (Nat.le_trans (by decide) hm) (qf_app qa_11 (Nat.le_trans (by decide) hm) (qf_app qa_12 (Nat.le_trans (by decide) hm) (qf_app qa_13 (Nat.le_trans (by decide) hm) (qf_app qa_14 (Nat.le_trans (by decide) hm) (qf_app qa_15 (Nat.le_trans (by decide) hm) (qf_app qa_16 (Nat.le_trans (by decide) hm) (qf_app qa_17 (Nat.le_trans (by decide) hm) (qf_app qa_18 (Nat.le_trans (by decide) hm) (qf_here h)))))))))))))))))))
theorem qf_20 {pc : Nat} {q : qm_I} (hm : 1381 ≤ pc) (h : qm_fetch qx_c0_20 pc = some q) : qm_fetch qx_e0.2.2.2.2.2.2.2 pc = some q := qf_app qa_0 (Nat.le_trans (by decide) hm) (qf_app qa_1 (Nat.le_trans (by decide) hm) (qf_app qa_2 (Nat.le_trans (by decide) hm) (qf_app qa_3 (Nat.le_trans (by decide) hm) (qf_app qa_4 (Nat.le_trans (by decide) hm) (qf_app qa_5 (Nat.le_trans (by decide) hm) (qf_app qa_6 (Nat.le_trans (by decide) hm) (qf_app qa_7 (Nat.le_trans (by decide) hm) (qf_app qa_8 (Nat.le_trans (by decide) hm) (qf_app qa_9 (Nat.le_trans (by decide) hm) (qf_app qa_10 (Nat.le_trans (by decide) hm) (qf_app qa_11 (Nat.le_trans (by decide) hm) (qf_app qa_12 (Nat.le_trans (by decide) hm) (qf_app qa_13 (Nat.le_trans (by decide) hm) (qf_app qa_14 (Nat.le_trans (by decide) hm) (qf_app qa_15 (Nat.le_trans (by decide) hm) (qf_app qa_16 (Nat.le_trans (by decide) hm) (qf_app qa_17 (Nat.le_trans (by decide) hm) (qf_app qa_18 (Nat.le_trans (by decide) hm) (qf_app qa_19 (Nat.le_trans (by decide) hm) (qf_here h))))))))))))))))))))
theorem qf_21 {pc : Nat} {q : qm_I} (hm : 1439 ≤ pc) (h : qm_fetch qx_c0_21 pc = some q) : qm_fetch qx_e0.2.2.2.2.2.2.2 pc = some q := qf_app qa_0 (Nat.le_trans (by decide) hm) (qf_app qa_1 (Nat.le_trans (by decide) hm) (qf_app qa_2 (Nat.le_trans (by decide) hm) (qf_app qa_3 (Nat.le_trans (by decide) hm) (qf_app qa_4 (Nat.le_trans (by decide) hm) (qf_app qa_5 (Nat.le_trans (by decide) hm) (qf_app qa_6 (Nat.le_trans (by decide) hm) (qf_app qa_7 (Nat.le_trans (by decide) hm) (qf_app qa_8 (Nat.le_trans (by decide) hm) (qf_app qa_9 (Nat.le_trans (by decide) hm) (qf_app qa_10 (Nat.le_trans (by decide) hm) (qf_app qa_11 (Nat.le_trans (by decide) hm) (qf_app qa_12 (Nat.le_trans (by decide) hm) (qf_app qa_13 (Nat.le_trans (by decide) hm) (qf_app qa_14 (Nat.le_trans (by decide) hm) (qf_app qa_15 (Nat.le_trans (by decide) hm) (qf_app qa_16 (Nat.le_trans (by decide) hm) (qf_app qa_17 (Nat.le_trans (by decide) hm) (qf_app qa_18 (Nat.le_trans (by decide) hm) (qf_app qa_19 (Nat.le_trans (by decide) hm) (qf_app qa_20 (Nat.le_trans (by decide) hm) (qf_here h)))))))))))))))))))))
theorem qf_22 {pc : Nat} {q : qm_I} (hm : 1498 ≤ pc) (h : qm_fetch qx_c0_22 pc = some q) : qm_fetch qx_e0.2.2.2.2.2.2.2 pc = some q := qf_app qa_0 (Nat.le_trans (by decide) hm) (qf_app qa_1 (Nat.le_trans (by decide) hm) (qf_app qa_2 (Nat.le_trans (by decide) hm) (qf_app qa_3 (Nat.le_trans (by decide) hm) (qf_app qa_4 (Nat.le_trans (by decide) hm) (qf_app qa_5 (Nat.le_trans (by decide) hm) (qf_app qa_6 (Nat.le_trans (by decide) hm) (qf_app qa_7 (Nat.le_trans (by decide) hm) (qf_app qa_8 (Nat.le_trans (by decide) hm) (qf_app qa_9 (Nat.le_trans (by decide) hm) (qf_app qa_10 (Nat.le_trans (by decide) hm) (qf_app qa_11 (Nat.le_trans (by decide) hm) (qf_app qa_12 (Nat.le_trans (by decide) hm) (qf_app qa_13 (Nat.le_trans (by decide) hm) (qf_app qa_14 (Nat.le_trans (by decide) hm) (qf_app qa_15 (Nat.le_trans (by decide) hm) (qf_app qa_16 (Nat.le_trans (by decide) hm) (qf_app qa_17 (Nat.le_trans (by decide) hm) (qf_app qa_18 (Nat.le_trans (by decide) hm) (qf_app qa_19 (Nat.le_trans (by decide) hm) (qf_app qa_20 (Nat.le_trans (by decide) hm) (qf_app qa_21 (Nat.le_trans (by decide) hm) (qf_here h))))))))))))))))))))))
theorem qf_23 {pc : Nat} {q : qm_I} (hm : 1565 ≤ pc) (h : qm_fetch qx_c0_23 pc = some q) : qm_fetch qx_e0.2.2.2.2.2.2.2 pc = some q := qf_app qa_0 (Nat.le_trans (by decide) hm) (qf_app qa_1 (Nat.le_trans (by decide) hm) (qf_app qa_2 (Nat.le_trans (by decide) hm) (qf_app qa_3 (Nat.le_trans (by decide) hm) (qf_app qa_4 (Nat.le_trans (by decide) hm) (qf_app qa_5 (Nat.le_trans (by decide) hm) (qf_app qa_6 (Nat.le_trans (by decide) hm) (qf_app qa_7 (Nat.le_trans (by decide) hm) (qf_app qa_8 (Nat.le_trans (by decide) hm) (qf_app qa_9 (Nat.le_trans (by decide) hm) (qf_app qa_10 (Nat.le_trans (by decide) hm) (qf_app qa_11 (Nat.le_trans (by decide) hm) (qf_app qa_12 (Nat.le_trans (by decide) hm) (qf_app qa_13 (Nat.le_trans (by decide) hm) (qf_app qa_14 (Nat.le_trans (by decide) hm) (qf_app qa_15 (Nat.le_trans (by decide) hm) (qf_app qa_16 (Nat.le_trans (by decide) hm) (qf_app qa_17 (Nat.le_trans (by decide) hm) (qf_app qa_18 (Nat.le_trans (by decide) hm) (qf_app qa_19 (Nat.le_trans (by decide) hm) (qf_app qa_20 (Nat.le_trans (by decide) hm) (qf_app qa_21 (Nat.le_trans (by decide) hm) (qf_app qa_22 (Nat.le_trans (by decide) hm) (qf_here h)))))))))))))))))))))))
theorem qf_24 {pc : Nat} {q : qm_I} (hm : 1626 ≤ pc) (h : qm_fetch qx_c0_24 pc = some q) : qm_fetch qx_e0.2.2.2.2.2.2.2 pc = some q := qf_app qa_0 (Nat.le_trans (by decide) hm) (qf_app qa_1 (Nat.le_trans (by decide) hm) (qf_app qa_2 (Nat.le_trans (by decide) hm) (qf_app qa_3 (Nat.le_trans (by decide) hm) (qf_app qa_4 (Nat.le_trans (by decide) hm) (qf_app qa_5 (Nat.le_trans (by decide) hm) (qf_app qa_6 (Nat.le_trans (by decide) hm) (qf_app qa_7 (Nat.le_trans (by decide) hm) (qf_app qa_8 (Nat.le_trans (by decide) hm) (qf_app qa_9 (Nat.le_trans (by decide) hm) (qf_app qa_10 (Nat.le_trans (by decide) hm) (qf_app qa_11 (Nat.le_trans (by decide) hm) (qf_app qa_12 (Nat.le_trans (by decide) hm) (qf_app qa_13 (Nat.le_trans (by decide) hm) (qf_app qa_14 (Nat.le_trans (by decide) hm) (qf_app qa_15 (Nat.le_trans (by decide) hm) (qf_app qa_16 (Nat.le_trans (by decide) hm) (qf_app qa_17 (Nat.le_trans (by decide) hm) (qf_app qa_18 (Nat.le_trans (by decide) hm) (qf_app qa_19 (Nat.le_trans (by decide) hm) (qf_app qa_20 (Nat.le_trans (by decide) hm) (qf_app qa_21 (Nat.le_trans (by decide) hm) (qf_app qa_22 (Nat.le_trans (by decide) hm) (qf_app qa_23 (Nat.le_trans (by decide) hm) (qf_here h))))))))))))))))))))))))
theorem qf_25 {pc : Nat} {q : qm_I} (hm : 1694 ≤ pc) (h : qm_fetch qx_c0_25 pc = some q) : qm_fetch qx_e0.2.2.2.2.2.2.2 pc = some q := qf_app qa_0 (Nat.le_trans (by decide) hm) (qf_app qa_1 (Nat.le_trans (by decide) hm) (qf_app qa_2 (Nat.le_trans (by decide) hm) (qf_app qa_3 (Nat.le_trans (by decide) hm) (qf_app qa_4 (Nat.le_trans (by decide) hm) (qf_app qa_5 (Nat.le_trans (by decide) hm) (qf_app qa_6 (Nat.le_trans (by decide) hm) (qf_app qa_7 (Nat.le_trans (by decide) hm) (qf_app qa_8 (Nat.le_trans (by decide) hm) (qf_app qa_9 (Nat.le_trans (by decide) hm) (qf_app qa_10 (Nat.le_trans (by decide) hm) (qf_app qa_11 (Nat.le_trans (by decide) hm) (qf_app qa_12 (Nat.le_trans (by decide) hm) (qf_app qa_13 (Nat.le_trans (by decide) hm) (qf_app qa_14 (Nat.le_trans (by decide) hm) (qf_app qa_15 (Nat.le_trans (by decide) hm) (qf_app qa_16 (Nat.le_trans (by decide) hm) (qf_app qa_17 (Nat.le_trans (by decide) hm) (qf_app qa_18 (Nat.le_trans (by decide) hm) (qf_app qa_19 (Nat.le_trans (by decide) hm) (qf_app qa_20 (Nat.le_trans (by decide) hm) (qf_app qa_21 (Nat.le_trans (by decide) hm) (qf_app qa_22 (Nat.le_trans (by decide) hm) (qf_app qa_23 (Nat.le_trans (by decide) hm) (qf_app qa_24 (Nat.le_trans (by decide) hm) (qf_here h)))))))))))))))))))))))))
theorem qf_26 {pc : Nat} {q : qm_I} (hm : 1756 ≤ pc) (h : qm_fetch qx_c0_26 pc = some q) : qm_fetch qx_e0.2.2.2.2.2.2.2 pc = some q := qf_app qa_0 (Nat.le_trans (by decide) hm) (qf_app qa_1 (Nat.le_trans (by decide) hm) (qf_app qa_2 (Nat.le_trans (by decide) hm) (qf_app qa_3 (Nat.le_trans (by decide) hm) (qf_app qa_4 (Nat.le_trans (by decide) hm) (qf_app qa_5 (Nat.le_trans (by decide) hm) (qf_app qa_6 (Nat.le_trans (by decide) hm) (qf_app qa_7 (Nat.le_trans (by decide) hm) (qf_app qa_8 (Nat.le_trans (by decide) hm) (qf_app qa_9 (Nat.le_trans (by decide) hm) (qf_app qa_10 (Nat.le_trans (by decide) hm) (qf_app qa_11 (Nat.le_trans (by decide) hm) (qf_app qa_12 (Nat.le_trans (by decide) hm) (qf_app qa_13 (Nat.le_trans (by decide) hm) (qf_app qa_14 (Nat.le_trans (by decide) hm) (qf_app qa_15 (Nat.le_trans (by decide) hm) (qf_app qa_16 (Nat.le_trans (by decide) hm) (qf_app qa_17 (Nat.le_trans (by decide) hm) (qf_app qa_18 (Nat.le_trans (by decide) hm) (qf_app qa_19 (Nat.le_trans (by decide) hm) (qf_app qa_20 (Nat.le_trans (by decide) hm) (qf_app qa_21 (Nat.le_trans (by decide) hm) (qf_app qa_22 (Nat.le_trans (by decide) hm) (qf_app qa_23 (Nat.le_trans (by decide) hm) (qf_app qa_24 (Nat.le_trans (by decide) hm) (qf_app qa_25 (Nat.le_trans (by decide) hm) (qf_here h))))))))))))))))))))))))))
theorem qf_27 {pc : Nat} {q : qm_I} (hm : 1816 ≤ pc) (h : qm_fetch qx_c0_27 pc = some q) : qm_fetch qx_e0.2.2.2.2.2.2.2 pc = some q := qf_app qa_0 (Nat.le_trans (by decide) hm) (qf_app qa_1 (Nat.le_trans (by decide) hm) (qf_app qa_2 (Nat.le_trans (by decide) hm) (qf_app qa_3 (Nat.le_trans (by decide) hm) (qf_app qa_4 (Nat.le_trans (by decide) hm) (qf_app qa_5 (Nat.le_trans (by decide) hm) (qf_app qa_6 (Nat.le_trans (by decide) hm) (qf_app qa_7 (Nat.le_trans (by decide) hm) (qf_app qa_8 (Nat.le_trans (by decide) hm) (qf_app qa_9 (Nat.le_trans (by decide) hm) (qf_app qa_10 (Nat.le_trans (by decide) hm) (qf_app qa_11 (Nat.le_trans (by decide) hm) (qf_app qa_12 (Nat.le_trans (by decide) hm) (qf_app qa_13 (Nat.le_trans (by decide) hm) (qf_app qa_14 (Nat.le_trans (by decide) hm) (qf_app qa_15 (Nat.le_trans (by decide) hm) (qf_app qa_16 (Nat.le_trans (by decide) hm) (qf_app qa_17 (Nat.le_trans (by decide) hm) (qf_app qa_18 (Nat.le_trans (by decide) hm) (qf_app qa_19 (Nat.le_trans (by decide) hm) (qf_app qa_20 (Nat.le_trans (by decide) hm) (qf_app qa_21 (Nat.le_trans (by decide) hm) (qf_app qa_22 (Nat.le_trans (by decide) hm) (qf_app qa_23 (Nat.le_trans (by decide) hm) (qf_app qa_24 (Nat.le_trans (by decide) hm) (qf_app qa_25 (Nat.le_trans (by decide) hm) (qf_app qa_26 (Nat.le_trans (by decide) hm) (qf_here h)))))))))))))))))))))))))))
theorem qf_28 {pc : Nat} {q : qm_I} (hm : 1872 ≤ pc) (h : qm_fetch qx_c0_28 pc = some q) : qm_fetch qx_e0.2.2.2.2.2.2.2 pc = some q := qf_app qa_0 (Nat.le_trans (by decide) hm) (qf_app qa_1 (Nat.le_trans (by decide) hm) (qf_app qa_2 (Nat.le_trans (by decide) hm) (qf_app qa_3 (Nat.le_trans (by decide) hm) (qf_app qa_4 (Nat.le_trans (by decide) hm) (qf_app qa_5 (Nat.le_trans (by decide) hm) (qf_app qa_6 (Nat.le_trans (by decide) hm) (qf_app qa_7 (Nat.le_trans (by decide) hm) (qf_app qa_8 (Nat.le_trans (by decide) hm) (qf_app qa_9 (Nat.le_trans (by decide) hm) (qf_app qa_10 (Nat.le_trans (by decide) hm) (qf_app qa_11 (Nat.le_trans (by decide) hm) (qf_app qa_12 (Nat.le_trans (by decide) hm) (qf_app qa_13 (Nat.le_trans (by decide) hm) (qf_app qa_14 (Nat.le_trans (by decide) hm) (qf_app qa_15 (Nat.le_trans (by decide) hm) (qf_app qa_16 (Nat.le_trans (by decide) hm) (qf_app qa_17 (Nat.le_trans (by decide) hm) (qf_app qa_18 (Nat.le_trans (by decide) hm) (qf_app qa_19 (Nat.le_trans (by decide) hm) (qf_app qa_20 (Nat.le_trans (by decide) hm) (qf_app qa_21 (Nat.le_trans (by decide) hm) (qf_app qa_22 (Nat.le_trans (by decide) hm) (qf_app qa_23 (Nat.le_trans (by decide) hm) (qf_app qa_24 (Nat.le_trans (by decide) hm) (qf_app qa_25 (Nat.le_trans (by decide) hm) (qf_app qa_26 (Nat.le_trans (by decide) hm) (qf_app qa_27 (Nat.le_trans (by decide) hm) (qf_here h))))))))))))))))))))))))))))
theorem qf_29 {pc : Nat} {q : qm_I} (hm : 1934 ≤ pc) (h : qm_fetch qx_c0_29 pc = some q) : qm_fetch qx_e0.2.2.2.2.2.2.2 pc = some q := qf_app qa_0 (Nat.le_trans (by decide) hm) (qf_app qa_1 (Nat.le_trans (by decide) hm) (qf_app qa_2 (Nat.le_trans (by decide) hm) (qf_app qa_3 (Nat.le_trans (by decide) hm) (qf_app qa_4 (Nat.le_trans (by decide) hm) (qf_app qa_5 (Nat.le_trans (by decide) hm) (qf_app qa_6 (Nat.le_trans (by decide) hm) (qf_app qa_7 (Nat.le_trans (by decide) hm) (qf_app qa_8 (Nat.le_trans (by decide) hm) (qf_app qa_9 (Nat.le_trans (by decide) hm) (qf_app qa_10 (Nat.le_trans (by decide) hm) (qf_app qa_11 (Nat.le_trans (by decide) hm) (qf_app qa_12 (Nat.le_trans (by decide) hm) (qf_app qa_13 (Nat.le_trans (by decide) hm) (qf_app qa_14 (Nat.le_trans (by decide) hm) (qf_app qa_15 (Nat.le_trans (by decide) hm) (qf_app qa_16 (Nat.le_trans (by decide) hm) (qf_app qa_17 (Nat.le_trans (by decide) hm) (qf_app qa_18 (Nat.le_trans (by decide) hm) (qf_app qa_19 (Nat.le_trans (by decide) hm) (qf_app qa_20 (Nat.le_trans (by decide) hm) (qf_app qa_21 (Nat.le_trans (by decide) hm) (qf_app qa_22 (Nat.le_trans (by decide) hm) (qf_app qa_23 (Nat.le_trans (by decide) hm) (qf_app qa_24 (Nat.le_trans (by decide) hm) (qf_app qa_25 (Nat.le_trans (by decide) hm) (qf_app qa_26 (Nat.le_trans (by decide) hm) (qf_app qa_27 (Nat.le_trans (by decide) hm) (qf_app qa_28 (Nat.le_trans (by decide) hm) (qf_here h)))))))))))))))))))))))))))))
theorem qf_30 {pc : Nat} {q : qm_I} (hm : 1990 ≤ pc) (h : qm_fetch qx_c0_30 pc = some q) : qm_fetch qx_e0.2.2.2.2.2.2.2 pc = some q := qf_app qa_0 (Nat.le_trans (by decide) hm) (qf_app qa_1 (Nat.le_trans (by decide) hm) (qf_app qa_2 (Nat.le_trans (by decide) hm) (qf_app qa_3 (Nat.le_trans (by decide) hm) (qf_app qa_4 (Nat.le_trans (by decide) hm) (qf_app qa_5 (Nat.le_trans (by decide) hm) (qf_app qa_6 (Nat.le_trans (by decide) hm) (qf_app qa_7 (Nat.le_trans (by decide) hm) (qf_app qa_8 (Nat.le_trans (by decide) hm) (qf_app qa_9 (Nat.le_trans (by decide) hm) (qf_app qa_10 (Nat.le_trans (by decide) hm) (qf_app qa_11 (Nat.le_trans (by decide) hm) (qf_app qa_12 (Nat.le_trans (by decide) hm) (qf_app qa_13 (Nat.le_trans (by decide) hm) (qf_app qa_14 (Nat.le_trans (by decide) hm) (qf_app qa_15 (Nat.le_trans (by decide) hm) (qf_app qa_16 (Nat.le_trans (by decide) hm) (qf_app qa_17 (Nat.le_trans (by decide) hm) (qf_app qa_18 (Nat.le_trans (by decide) hm) (qf_app qa_19 (Nat.le_trans (by decide) hm) (qf_app qa_20 (Nat.le_trans (by decide) hm) (qf_app qa_21 (Nat.le_trans (by decide) hm) (qf_app qa_22 (Nat.le_trans (by decide) hm) (qf_app qa_23 (Nat.le_trans (by decide) hm) (qf_app qa_24 (Nat.le_trans (by decide) hm) (qf_app qa_25 (Nat.le_trans (by decide) hm) (qf_app qa_26 (Nat.le_trans (by decide) hm) (qf_app qa_27 (Nat.le_trans (by decide) hm) (qf_app qa_28 (Nat.le_trans (by decide) hm) (qf_app qa_29 (Nat.le_trans (by decide) hm) h)))))))))))))))))))))))))))))
theorem lw_twoI {X : qm_X} {d k km : Nat} {as am : List Value} {w : qm_W} (h : qm_T X d k as w (fun r w1 => (∃ y : Int, r = some (.int (qz y))) ∧ (∃ σ α κ ρ, w1 = qw σ α κ ρ) ∧ qm_T X d km am w1 (fun r' _ => r' = r))) : qm_T X d k as w (fun r w1 => ∃ y : Int, (-2147483648 ≤ y ∧ y ≤ 2147483647) ∧ r = some (.int (qz y)) ∧ (∃ σ α κ ρ, w1 = qw σ α κ ρ) ∧ qm_T X d km am w1 (fun r' _ => r' = some (.int (qz y)))) := by
  refine qr_mono h ?_
  rintro r w1 ⟨⟨y, rfl⟩, hw, h1⟩
  refine ⟨(qz y).toInt, qz_rng _, by rw [← qz_of], hw, ?_⟩
  rw [← qz_of]
  exact h1
theorem lw_twoL {X : qm_X} {d k km : Nat} {as am : List Value} {w : qm_W} (h : qm_T X d k as w (fun r w1 => (∃ y : Int, r = some (.long (ql y))) ∧ (∃ σ α κ ρ, w1 = qw σ α κ ρ) ∧ qm_T X d km am w1 (fun r' _ => r' = r))) : qm_T X d k as w (fun r w1 => ∃ y : Int, (-9223372036854775808 ≤ y ∧ y ≤ 9223372036854775807) ∧ r = some (.long (ql y)) ∧ (∃ σ α κ ρ, w1 = qw σ α κ ρ) ∧ qm_T X d km am w1 (fun r' _ => r' = some (.long (ql y)))) := by
  refine qr_mono h ?_
  rintro r w1 ⟨⟨y, rfl⟩, hw, h1⟩
  refine ⟨(ql y).toInt, ql_rng _, by rw [← ql_of], hw, ?_⟩
  rw [← ql_of]
  exact h1
theorem ql_or_r (a b : Int) : -9223372036854775808 ≤ ql_or a b ∧ ql_or a b ≤ 9223372036854775807 := ql_rng _
abbrev lw_Q0 : Option Value → qm_W → Prop := fun r _ => r = some (.int (qz 1))
set_option maxHeartbeats 4000000 in
set_option maxRecDepth 20000 in
theorem lw_end {xs : Nat → Int} {vb : Bool} {w : qm_W} : qr_W (qe 6 xs vb) 100 qx_e0 lw_Q0 (2040, [(3, .int (qz 0)), (2, .ref 86), (1, .ref 16), (0, .ref 0)], [], w, 109, 19340) := by
  refine qr_iinc [(3, .int (qz 6)), (2, .ref 86), (1, .ref 16), (0, .ref 0)] 2043 (qf_30 (by decide) rfl) rfl (by decide) rfl rfl ?_
  refine qr_goto 18 (qf_30 (by decide) rfl) rfl ?_
  refine qr_iload_n 19 (qf_0 (by decide) rfl) rfl rfl ?_
  refine qr_aload_n 20 (qf_0 (by decide) rfl) rfl rfl ?_
  refine qr_alen 21 (qf_0 (by decide) rfl) rfl (Or.inl (by decide)) rfl ?_
  refine qr_bipush 23 (qf_0 (by decide) rfl) (by decide) rfl ?_
  refine qr_isub 24 (qf_0 (by decide) rfl) rfl ?_
  refine qr_icmp_gt 2046 27 (qf_0 (by decide) rfl) rfl rfl (by omega) (by omega) (fun _ => ?_) (fun h => False.elim (by omega))
  refine qr_iconst 2047 (qf_30 (by decide) rfl) rfl ?_
  refine qr_retZ (qf_30 (by decide) rfl) rfl (by omega) (Nat.le_of_ble_eq_true rfl) (Nat.le_of_ble_eq_true rfl) ?_
  exact rfl
set_option maxHeartbeats 4000000 in
set_option maxRecDepth 20000 in
theorem lw_c0 {xs : Nat → Int} {vb : Bool} {s g : Nat → Nat → Int} (hok : qo_ok s g) (rx : ∀ k, -2147483648 ≤ xs k ∧ xs k ≤ 2147483647) : qr_W (qe 6 xs vb) 100 qx_e0 lw_Q0 (212, [(3, .int (qz 0)), (2, .ref 86), (1, .ref 16), (0, .ref 0)], [], qw (qo_s s) (qo_r g) qo_k 82, 109, 19340) := by
  refine qr_aload_n 213 (qf_0 (by decide) rfl) rfl rfl ?_
  refine qr_aload_n 214 (qf_0 (by decide) rfl) rfl rfl ?_
  refine qr_iload_n 215 (qf_0 (by decide) rfl) rfl rfl ?_
  refine qr_iconst 216 (qf_0 (by decide) rfl) rfl ?_
  refine qr_iadd 217 (qf_0 (by decide) rfl) rfl ?_
  refine qy_v 1 rfl ?_
  refine qr_iaload 218 (qf_0 (by decide) rfl) rfl (by omega) (by decide) rfl ?_
  refine qy_v (xs 1) rfl ?_
  refine qr_aload_n 219 (qf_0 (by decide) rfl) rfl rfl ?_
  refine qr_iload_n 220 (qf_0 (by decide) rfl) rfl rfl ?_
  refine qr_iconst 221 (qf_0 (by decide) rfl) rfl ?_
  refine qr_iadd 222 (qf_0 (by decide) rfl) rfl ?_
  refine qy_v 2 rfl ?_
  refine qr_iaload 223 (qf_0 (by decide) rfl) rfl (by omega) (by decide) rfl ?_
  refine qy_v (xs 2) rfl ?_
  refine qr_aload_n 224 (qf_0 (by decide) rfl) rfl rfl ?_
  refine qr_iload_n 225 (qf_0 (by decide) rfl) rfl rfl ?_
  refine qr_iconst 226 (qf_0 (by decide) rfl) rfl ?_
  refine qr_iadd 227 (qf_0 (by decide) rfl) rfl ?_
  refine qy_v 3 rfl ?_
  refine qr_iaload 228 (qf_0 (by decide) rfl) rfl (by omega) (by decide) rfl ?_
  refine qy_v (xs 3) rfl ?_
  refine qr_call 231 109 19340 (qf_0 (by decide) rfl) rfl (Nat.le_of_ble_eq_true rfl) (Nat.le_of_ble_eq_true rfl) rfl rfl (lw_twoI (sx_person (d := 97) hok (rx _) (rx _) (rx _))) ?_
  rintro _ _ ⟨y, hy, rfl, ⟨σ, α, κ, ρ, rfl⟩, hm⟩
  show qr_W (qe 6 xs vb) 100 qx_e0 lw_Q0 (231, [(3, .int (qz 0)), (2, .ref 86), (1, .ref 16), (0, .ref 0)], [.int (qz y)], qw σ α κ ρ, 109, 19340)
  refine qr_aload_n 232 (qf_0 (by decide) rfl) rfl rfl ?_
  refine qr_aload_n 233 (qf_0 (by decide) rfl) rfl rfl ?_
  refine qr_iload_n 234 (qf_0 (by decide) rfl) rfl rfl ?_
  refine qr_iconst 235 (qf_0 (by decide) rfl) rfl ?_
  refine qr_iadd 236 (qf_0 (by decide) rfl) rfl ?_
  refine qy_v 1 rfl ?_
  refine qr_iaload 237 (qf_0 (by decide) rfl) rfl (by omega) (by decide) rfl ?_
  refine qy_v (xs 1) rfl ?_
  refine qr_aload_n 238 (qf_0 (by decide) rfl) rfl rfl ?_
  refine qr_iload_n 239 (qf_0 (by decide) rfl) rfl rfl ?_
  refine qr_iconst 240 (qf_0 (by decide) rfl) rfl ?_
  refine qr_iadd 241 (qf_0 (by decide) rfl) rfl ?_
  refine qy_v 2 rfl ?_
  refine qr_iaload 242 (qf_0 (by decide) rfl) rfl (by omega) (by decide) rfl ?_
  refine qy_v (xs 2) rfl ?_
  refine qr_aload_n 243 (qf_1 (by decide) rfl) rfl rfl ?_
  refine qr_iload_n 244 (qf_1 (by decide) rfl) rfl rfl ?_
  refine qr_iconst 245 (qf_1 (by decide) rfl) rfl ?_
  refine qr_iadd 246 (qf_1 (by decide) rfl) rfl ?_
  refine qy_v 3 rfl ?_
  refine qr_iaload 247 (qf_1 (by decide) rfl) rfl (by omega) (by decide) rfl ?_
  refine qy_v (xs 3) rfl ?_
  refine qr_call 250 109 19340 (qf_1 (by decide) rfl) rfl (Nat.le_of_ble_eq_true rfl) (Nat.le_of_ble_eq_true rfl) rfl rfl hm ?_
  rintro _ w2 rfl
  show qr_W (qe 6 xs vb) 100 qx_e0 lw_Q0 (250, [(3, .int (qz 0)), (2, .ref 86), (1, .ref 16), (0, .ref 0)], [.int (qz y), .int (qz y)], w2, 109, 19340)
  refine qr_icmp_eq 2040 253 (qf_1 (by decide) rfl) rfl rfl hy hy (fun _ => ?_) (fun h => absurd rfl h)
  exact lw_end
set_option maxHeartbeats 4000000 in
set_option maxRecDepth 20000 in
theorem lw_c1 {xs : Nat → Int} {vb : Bool} {s g : Nat → Nat → Int} (hok : qo_ok s g) (rx : ∀ k, -2147483648 ≤ xs k ∧ xs k ≤ 2147483647) : qr_W (qe 6 xs vb) 100 qx_e0 lw_Q0 (255, [(3, .int (qz 0)), (2, .ref 86), (1, .ref 16), (0, .ref 0)], [], qw (qo_s s) (qo_r g) qo_k 82, 109, 19340) := by
  refine qr_aload_n 256 (qf_1 (by decide) rfl) rfl rfl ?_
  refine qr_aload_n 257 (qf_1 (by decide) rfl) rfl rfl ?_
  refine qr_iload_n 258 (qf_1 (by decide) rfl) rfl rfl ?_
  refine qr_iconst 259 (qf_1 (by decide) rfl) rfl ?_
  refine qr_iadd 260 (qf_1 (by decide) rfl) rfl ?_
  refine qy_v 1 rfl ?_
  refine qr_iaload 261 (qf_1 (by decide) rfl) rfl (by omega) (by decide) rfl ?_
  refine qy_v (xs 1) rfl ?_
  refine qr_aload_n 262 (qf_1 (by decide) rfl) rfl rfl ?_
  refine qr_iload_n 263 (qf_1 (by decide) rfl) rfl rfl ?_
  refine qr_iconst 264 (qf_1 (by decide) rfl) rfl ?_
  refine qr_iadd 265 (qf_1 (by decide) rfl) rfl ?_
  refine qy_v 2 rfl ?_
  refine qr_iaload 266 (qf_1 (by decide) rfl) rfl (by omega) (by decide) rfl ?_
  refine qy_v (xs 2) rfl ?_
  refine qr_aload_n 267 (qf_1 (by decide) rfl) rfl rfl ?_
  refine qr_iload_n 268 (qf_1 (by decide) rfl) rfl rfl ?_
  refine qr_iconst 269 (qf_1 (by decide) rfl) rfl ?_
  refine qr_iadd 270 (qf_1 (by decide) rfl) rfl ?_
  refine qy_v 3 rfl ?_
  refine qr_iaload 271 (qf_1 (by decide) rfl) rfl (by omega) (by decide) rfl ?_
  refine qy_v (xs 3) rfl ?_
  refine qr_call 274 109 19340 (qf_1 (by decide) rfl) rfl (Nat.le_of_ble_eq_true rfl) (Nat.le_of_ble_eq_true rfl) rfl rfl (lw_twoI (sx_people (d := 97) hok (rx _) (rx _) (rx _))) ?_
  rintro _ _ ⟨y, hy, rfl, ⟨σ, α, κ, ρ, rfl⟩, hm⟩
  show qr_W (qe 6 xs vb) 100 qx_e0 lw_Q0 (274, [(3, .int (qz 0)), (2, .ref 86), (1, .ref 16), (0, .ref 0)], [.int (qz y)], qw σ α κ ρ, 109, 19340)
  refine qr_aload_n 275 (qf_1 (by decide) rfl) rfl rfl ?_
  refine qr_aload_n 276 (qf_1 (by decide) rfl) rfl rfl ?_
  refine qr_iload_n 277 (qf_1 (by decide) rfl) rfl rfl ?_
  refine qr_iconst 278 (qf_1 (by decide) rfl) rfl ?_
  refine qr_iadd 279 (qf_1 (by decide) rfl) rfl ?_
  refine qy_v 1 rfl ?_
  refine qr_iaload 280 (qf_1 (by decide) rfl) rfl (by omega) (by decide) rfl ?_
  refine qy_v (xs 1) rfl ?_
  refine qr_aload_n 281 (qf_1 (by decide) rfl) rfl rfl ?_
  refine qr_iload_n 282 (qf_1 (by decide) rfl) rfl rfl ?_
  refine qr_iconst 283 (qf_1 (by decide) rfl) rfl ?_
  refine qr_iadd 284 (qf_1 (by decide) rfl) rfl ?_
  refine qy_v 2 rfl ?_
  refine qr_iaload 285 (qf_1 (by decide) rfl) rfl (by omega) (by decide) rfl ?_
  refine qy_v (xs 2) rfl ?_
  refine qr_aload_n 286 (qf_1 (by decide) rfl) rfl rfl ?_
  refine qr_iload_n 287 (qf_1 (by decide) rfl) rfl rfl ?_
  refine qr_iconst 288 (qf_1 (by decide) rfl) rfl ?_
  refine qr_iadd 289 (qf_1 (by decide) rfl) rfl ?_
  refine qy_v 3 rfl ?_
  refine qr_iaload 290 (qf_1 (by decide) rfl) rfl (by omega) (by decide) rfl ?_
  refine qy_v (xs 3) rfl ?_
  refine qr_call 293 109 19340 (qf_1 (by decide) rfl) rfl (Nat.le_of_ble_eq_true rfl) (Nat.le_of_ble_eq_true rfl) rfl rfl hm ?_
  rintro _ w2 rfl
  show qr_W (qe 6 xs vb) 100 qx_e0 lw_Q0 (293, [(3, .int (qz 0)), (2, .ref 86), (1, .ref 16), (0, .ref 0)], [.int (qz y), .int (qz y)], w2, 109, 19340)
  refine qr_icmp_eq 2040 296 (qf_1 (by decide) rfl) rfl rfl hy hy (fun _ => ?_) (fun h => absurd rfl h)
  exact lw_end
set_option maxHeartbeats 4000000 in
set_option maxRecDepth 20000 in
theorem lw_c2 {xs : Nat → Int} {vb : Bool} {s g : Nat → Nat → Int} (hok : qo_ok s g) (rx : ∀ k, -2147483648 ≤ xs k ∧ xs k ≤ 2147483647) : qr_W (qe 6 xs vb) 100 qx_e0 lw_Q0 (298, [(3, .int (qz 0)), (2, .ref 86), (1, .ref 16), (0, .ref 0)], [], qw (qo_s s) (qo_r g) qo_k 82, 109, 19340) := by
  refine qr_aload_n 299 (qf_1 (by decide) rfl) rfl rfl ?_
  refine qr_aload_n 300 (qf_1 (by decide) rfl) rfl rfl ?_
  refine qr_iload_n 301 (qf_1 (by decide) rfl) rfl rfl ?_
  refine qr_iconst 302 (qf_1 (by decide) rfl) rfl ?_
  refine qr_iadd 303 (qf_2 (by decide) rfl) rfl ?_
  refine qy_v 1 rfl ?_
  refine qr_iaload 304 (qf_2 (by decide) rfl) rfl (by omega) (by decide) rfl ?_
  refine qy_v (xs 1) rfl ?_
  refine qr_aload_n 305 (qf_2 (by decide) rfl) rfl rfl ?_
  refine qr_iload_n 306 (qf_2 (by decide) rfl) rfl rfl ?_
  refine qr_iconst 307 (qf_2 (by decide) rfl) rfl ?_
  refine qr_iadd 308 (qf_2 (by decide) rfl) rfl ?_
  refine qy_v 2 rfl ?_
  refine qr_iaload 309 (qf_2 (by decide) rfl) rfl (by omega) (by decide) rfl ?_
  refine qy_v (xs 2) rfl ?_
  refine qr_call 312 109 19340 (qf_2 (by decide) rfl) rfl (Nat.le_of_ble_eq_true rfl) (Nat.le_of_ble_eq_true rfl) rfl rfl (lw_twoI (sx_of (d := 97) hok (rx _) (rx _))) ?_
  rintro _ _ ⟨y, hy, rfl, ⟨σ, α, κ, ρ, rfl⟩, hm⟩
  show qr_W (qe 6 xs vb) 100 qx_e0 lw_Q0 (312, [(3, .int (qz 0)), (2, .ref 86), (1, .ref 16), (0, .ref 0)], [.int (qz y)], qw σ α κ ρ, 109, 19340)
  refine qr_aload_n 313 (qf_2 (by decide) rfl) rfl rfl ?_
  refine qr_aload_n 314 (qf_2 (by decide) rfl) rfl rfl ?_
  refine qr_iload_n 315 (qf_2 (by decide) rfl) rfl rfl ?_
  refine qr_iconst 316 (qf_2 (by decide) rfl) rfl ?_
  refine qr_iadd 317 (qf_2 (by decide) rfl) rfl ?_
  refine qy_v 1 rfl ?_
  refine qr_iaload 318 (qf_2 (by decide) rfl) rfl (by omega) (by decide) rfl ?_
  refine qy_v (xs 1) rfl ?_
  refine qr_aload_n 319 (qf_2 (by decide) rfl) rfl rfl ?_
  refine qr_iload_n 320 (qf_2 (by decide) rfl) rfl rfl ?_
  refine qr_iconst 321 (qf_2 (by decide) rfl) rfl ?_
  refine qr_iadd 322 (qf_2 (by decide) rfl) rfl ?_
  refine qy_v 2 rfl ?_
  refine qr_iaload 323 (qf_2 (by decide) rfl) rfl (by omega) (by decide) rfl ?_
  refine qy_v (xs 2) rfl ?_
  refine qr_call 326 109 19340 (qf_2 (by decide) rfl) rfl (Nat.le_of_ble_eq_true rfl) (Nat.le_of_ble_eq_true rfl) rfl rfl hm ?_
  rintro _ w2 rfl
  show qr_W (qe 6 xs vb) 100 qx_e0 lw_Q0 (326, [(3, .int (qz 0)), (2, .ref 86), (1, .ref 16), (0, .ref 0)], [.int (qz y), .int (qz y)], w2, 109, 19340)
  refine qr_icmp_eq 2040 329 (qf_2 (by decide) rfl) rfl rfl hy hy (fun _ => ?_) (fun h => absurd rfl h)
  exact lw_end
set_option maxHeartbeats 4000000 in
set_option maxRecDepth 20000 in
theorem lw_c3 {xs : Nat → Int} {vb : Bool} {s g : Nat → Nat → Int} (hok : qo_ok s g) (rx : ∀ k, -2147483648 ≤ xs k ∧ xs k ≤ 2147483647) : qr_W (qe 6 xs vb) 100 qx_e0 lw_Q0 (331, [(3, .int (qz 0)), (2, .ref 86), (1, .ref 16), (0, .ref 0)], [], qw (qo_s s) (qo_r g) qo_k 82, 109, 19340) := by
  refine qr_aload_n 332 (qf_2 (by decide) rfl) rfl rfl ?_
  refine qr_aload_n 333 (qf_2 (by decide) rfl) rfl rfl ?_
  refine qr_iload_n 334 (qf_2 (by decide) rfl) rfl rfl ?_
  refine qr_iconst 335 (qf_2 (by decide) rfl) rfl ?_
  refine qr_iadd 336 (qf_2 (by decide) rfl) rfl ?_
  refine qy_v 1 rfl ?_
  refine qr_iaload 337 (qf_2 (by decide) rfl) rfl (by omega) (by decide) rfl ?_
  refine qy_v (xs 1) rfl ?_
  refine qr_aload_n 338 (qf_2 (by decide) rfl) rfl rfl ?_
  refine qr_iload_n 339 (qf_2 (by decide) rfl) rfl rfl ?_
  refine qr_iconst 340 (qf_2 (by decide) rfl) rfl ?_
  refine qr_iadd 341 (qf_2 (by decide) rfl) rfl ?_
  refine qy_v 2 rfl ?_
  refine qr_iaload 342 (qf_2 (by decide) rfl) rfl (by omega) (by decide) rfl ?_
  refine qy_v (xs 2) rfl ?_
  refine qr_call 345 109 19340 (qf_2 (by decide) rfl) rfl (Nat.le_of_ble_eq_true rfl) (Nat.le_of_ble_eq_true rfl) rfl rfl (lw_twoI (sx_sword (d := 97) hok (rx _) (rx _))) ?_
  rintro _ _ ⟨y, hy, rfl, ⟨σ, α, κ, ρ, rfl⟩, hm⟩
  show qr_W (qe 6 xs vb) 100 qx_e0 lw_Q0 (345, [(3, .int (qz 0)), (2, .ref 86), (1, .ref 16), (0, .ref 0)], [.int (qz y)], qw σ α κ ρ, 109, 19340)
  refine qr_aload_n 346 (qf_2 (by decide) rfl) rfl rfl ?_
  refine qr_aload_n 347 (qf_2 (by decide) rfl) rfl rfl ?_
  refine qr_iload_n 348 (qf_2 (by decide) rfl) rfl rfl ?_
  refine qr_iconst 349 (qf_2 (by decide) rfl) rfl ?_
  refine qr_iadd 350 (qf_2 (by decide) rfl) rfl ?_
  refine qy_v 1 rfl ?_
  refine qr_iaload 351 (qf_2 (by decide) rfl) rfl (by omega) (by decide) rfl ?_
  refine qy_v (xs 1) rfl ?_
  refine qr_aload_n 352 (qf_2 (by decide) rfl) rfl rfl ?_
  refine qr_iload_n 353 (qf_2 (by decide) rfl) rfl rfl ?_
  refine qr_iconst 354 (qf_2 (by decide) rfl) rfl ?_
  refine qr_iadd 355 (qf_2 (by decide) rfl) rfl ?_
  refine qy_v 2 rfl ?_
  refine qr_iaload 356 (qf_2 (by decide) rfl) rfl (by omega) (by decide) rfl ?_
  refine qy_v (xs 2) rfl ?_
  refine qr_call 359 109 19340 (qf_2 (by decide) rfl) rfl (Nat.le_of_ble_eq_true rfl) (Nat.le_of_ble_eq_true rfl) rfl rfl hm ?_
  rintro _ w2 rfl
  show qr_W (qe 6 xs vb) 100 qx_e0 lw_Q0 (359, [(3, .int (qz 0)), (2, .ref 86), (1, .ref 16), (0, .ref 0)], [.int (qz y), .int (qz y)], w2, 109, 19340)
  refine qr_icmp_eq 2040 362 (qf_2 (by decide) rfl) rfl rfl hy hy (fun _ => ?_) (fun h => absurd rfl h)
  exact lw_end
set_option maxHeartbeats 4000000 in
set_option maxRecDepth 20000 in
theorem lw_c4 {xs : Nat → Int} {vb : Bool} {s g : Nat → Nat → Int} (hok : qo_ok s g) (rx : ∀ k, -2147483648 ≤ xs k ∧ xs k ≤ 2147483647) : qr_W (qe 6 xs vb) 100 qx_e0 lw_Q0 (364, [(3, .int (qz 0)), (2, .ref 86), (1, .ref 16), (0, .ref 0)], [], qw (qo_s s) (qo_r g) qo_k 82, 109, 19340) := by
  refine qr_aload_n 365 (qf_3 (by decide) rfl) rfl rfl ?_
  refine qr_aload_n 366 (qf_3 (by decide) rfl) rfl rfl ?_
  refine qr_iload_n 367 (qf_3 (by decide) rfl) rfl rfl ?_
  refine qr_iconst 368 (qf_3 (by decide) rfl) rfl ?_
  refine qr_iadd 369 (qf_3 (by decide) rfl) rfl ?_
  refine qy_v 1 rfl ?_
  refine qr_iaload 370 (qf_3 (by decide) rfl) rfl (by omega) (by decide) rfl ?_
  refine qy_v (xs 1) rfl ?_
  refine qr_aload_n 371 (qf_3 (by decide) rfl) rfl rfl ?_
  refine qr_iload_n 372 (qf_3 (by decide) rfl) rfl rfl ?_
  refine qr_iconst 373 (qf_3 (by decide) rfl) rfl ?_
  refine qr_iadd 374 (qf_3 (by decide) rfl) rfl ?_
  refine qy_v 2 rfl ?_
  refine qr_iaload 375 (qf_3 (by decide) rfl) rfl (by omega) (by decide) rfl ?_
  refine qy_v (xs 2) rfl ?_
  refine qr_call 378 109 19340 (qf_3 (by decide) rfl) rfl (Nat.le_of_ble_eq_true rfl) (Nat.le_of_ble_eq_true rfl) rfl rfl (lw_twoI (sx_kin (d := 97) hok (rx _) (rx _))) ?_
  rintro _ _ ⟨y, hy, rfl, ⟨σ, α, κ, ρ, rfl⟩, hm⟩
  show qr_W (qe 6 xs vb) 100 qx_e0 lw_Q0 (378, [(3, .int (qz 0)), (2, .ref 86), (1, .ref 16), (0, .ref 0)], [.int (qz y)], qw σ α κ ρ, 109, 19340)
  refine qr_aload_n 379 (qf_3 (by decide) rfl) rfl rfl ?_
  refine qr_aload_n 380 (qf_3 (by decide) rfl) rfl rfl ?_
  refine qr_iload_n 381 (qf_3 (by decide) rfl) rfl rfl ?_
  refine qr_iconst 382 (qf_3 (by decide) rfl) rfl ?_
  refine qr_iadd 383 (qf_3 (by decide) rfl) rfl ?_
  refine qy_v 1 rfl ?_
  refine qr_iaload 384 (qf_3 (by decide) rfl) rfl (by omega) (by decide) rfl ?_
  refine qy_v (xs 1) rfl ?_
  refine qr_aload_n 385 (qf_3 (by decide) rfl) rfl rfl ?_
  refine qr_iload_n 386 (qf_3 (by decide) rfl) rfl rfl ?_
  refine qr_iconst 387 (qf_3 (by decide) rfl) rfl ?_
  refine qr_iadd 388 (qf_3 (by decide) rfl) rfl ?_
  refine qy_v 2 rfl ?_
  refine qr_iaload 389 (qf_3 (by decide) rfl) rfl (by omega) (by decide) rfl ?_
  refine qy_v (xs 2) rfl ?_
  refine qr_call 392 109 19340 (qf_3 (by decide) rfl) rfl (Nat.le_of_ble_eq_true rfl) (Nat.le_of_ble_eq_true rfl) rfl rfl hm ?_
  rintro _ w2 rfl
  show qr_W (qe 6 xs vb) 100 qx_e0 lw_Q0 (392, [(3, .int (qz 0)), (2, .ref 86), (1, .ref 16), (0, .ref 0)], [.int (qz y), .int (qz y)], w2, 109, 19340)
  refine qr_icmp_eq 2040 395 (qf_3 (by decide) rfl) rfl rfl hy hy (fun _ => ?_) (fun h => absurd rfl h)
  exact lw_end
set_option maxHeartbeats 4000000 in
set_option maxRecDepth 20000 in
theorem lw_c5 {xs : Nat → Int} {vb : Bool} {s g : Nat → Nat → Int} (hok : qo_ok s g) (rx : ∀ k, -2147483648 ≤ xs k ∧ xs k ≤ 2147483647) : qr_W (qe 6 xs vb) 100 qx_e0 lw_Q0 (397, [(3, .int (qz 0)), (2, .ref 86), (1, .ref 16), (0, .ref 0)], [], qw (qo_s s) (qo_r g) qo_k 82, 109, 19340) := by
  refine qr_aload_n 398 (qf_3 (by decide) rfl) rfl rfl ?_
  refine qr_aload_n 399 (qf_3 (by decide) rfl) rfl rfl ?_
  refine qr_iload_n 400 (qf_3 (by decide) rfl) rfl rfl ?_
  refine qr_iconst 401 (qf_3 (by decide) rfl) rfl ?_
  refine qr_iadd 402 (qf_3 (by decide) rfl) rfl ?_
  refine qy_v 1 rfl ?_
  refine qr_iaload 403 (qf_3 (by decide) rfl) rfl (by omega) (by decide) rfl ?_
  refine qy_v (xs 1) rfl ?_
  refine qr_aload_n 404 (qf_3 (by decide) rfl) rfl rfl ?_
  refine qr_iload_n 405 (qf_3 (by decide) rfl) rfl rfl ?_
  refine qr_iconst 406 (qf_3 (by decide) rfl) rfl ?_
  refine qr_iadd 407 (qf_3 (by decide) rfl) rfl ?_
  refine qy_v 2 rfl ?_
  refine qr_iaload 408 (qf_3 (by decide) rfl) rfl (by omega) (by decide) rfl ?_
  refine qy_v (xs 2) rfl ?_
  refine qr_call 411 109 19340 (qf_3 (by decide) rfl) rfl (Nat.le_of_ble_eq_true rfl) (Nat.le_of_ble_eq_true rfl) rfl rfl (lw_twoI (sx_steps (d := 97) hok (rx _) (rx _))) ?_
  rintro _ _ ⟨y, hy, rfl, ⟨σ, α, κ, ρ, rfl⟩, hm⟩
  show qr_W (qe 6 xs vb) 100 qx_e0 lw_Q0 (411, [(3, .int (qz 0)), (2, .ref 86), (1, .ref 16), (0, .ref 0)], [.int (qz y)], qw σ α κ ρ, 109, 19340)
  refine qr_aload_n 412 (qf_3 (by decide) rfl) rfl rfl ?_
  refine qr_aload_n 413 (qf_3 (by decide) rfl) rfl rfl ?_
  refine qr_iload_n 414 (qf_3 (by decide) rfl) rfl rfl ?_
  refine qr_iconst 415 (qf_3 (by decide) rfl) rfl ?_
  refine qr_iadd 416 (qf_3 (by decide) rfl) rfl ?_
  refine qy_v 1 rfl ?_
  refine qr_iaload 417 (qf_3 (by decide) rfl) rfl (by omega) (by decide) rfl ?_
  refine qy_v (xs 1) rfl ?_
  refine qr_aload_n 418 (qf_3 (by decide) rfl) rfl rfl ?_
  refine qr_iload_n 419 (qf_3 (by decide) rfl) rfl rfl ?_
  refine qr_iconst 420 (qf_3 (by decide) rfl) rfl ?_
  refine qr_iadd 421 (qf_3 (by decide) rfl) rfl ?_
  refine qy_v 2 rfl ?_
  refine qr_iaload 422 (qf_3 (by decide) rfl) rfl (by omega) (by decide) rfl ?_
  refine qy_v (xs 2) rfl ?_
  refine qr_call 425 109 19340 (qf_4 (by decide) rfl) rfl (Nat.le_of_ble_eq_true rfl) (Nat.le_of_ble_eq_true rfl) rfl rfl hm ?_
  rintro _ w2 rfl
  show qr_W (qe 6 xs vb) 100 qx_e0 lw_Q0 (425, [(3, .int (qz 0)), (2, .ref 86), (1, .ref 16), (0, .ref 0)], [.int (qz y), .int (qz y)], w2, 109, 19340)
  refine qr_icmp_eq 2040 428 (qf_4 (by decide) rfl) rfl rfl hy hy (fun _ => ?_) (fun h => absurd rfl h)
  exact lw_end
set_option maxHeartbeats 4000000 in
set_option maxRecDepth 20000 in
theorem lw_c6 {xs : Nat → Int} {vb : Bool} {s g : Nat → Nat → Int} (hok : qo_ok s g) (rx : ∀ k, -2147483648 ≤ xs k ∧ xs k ≤ 2147483647) : qr_W (qe 6 xs vb) 100 qx_e0 lw_Q0 (430, [(3, .int (qz 0)), (2, .ref 86), (1, .ref 16), (0, .ref 0)], [], qw (qo_s s) (qo_r g) qo_k 82, 109, 19340) := by
  refine qr_aload_n 431 (qf_4 (by decide) rfl) rfl rfl ?_
  refine qr_aload_n 432 (qf_4 (by decide) rfl) rfl rfl ?_
  refine qr_iload_n 433 (qf_4 (by decide) rfl) rfl rfl ?_
  refine qr_iconst 434 (qf_4 (by decide) rfl) rfl ?_
  refine qr_iadd 435 (qf_4 (by decide) rfl) rfl ?_
  refine qy_v 1 rfl ?_
  refine qr_iaload 436 (qf_4 (by decide) rfl) rfl (by omega) (by decide) rfl ?_
  refine qy_v (xs 1) rfl ?_
  refine qr_aload_n 437 (qf_4 (by decide) rfl) rfl rfl ?_
  refine qr_iload_n 438 (qf_4 (by decide) rfl) rfl rfl ?_
  refine qr_iconst 439 (qf_4 (by decide) rfl) rfl ?_
  refine qr_iadd 440 (qf_4 (by decide) rfl) rfl ?_
  refine qy_v 2 rfl ?_
  refine qr_iaload 441 (qf_4 (by decide) rfl) rfl (by omega) (by decide) rfl ?_
  refine qy_v (xs 2) rfl ?_
  refine qr_aload_n 442 (qf_4 (by decide) rfl) rfl rfl ?_
  refine qr_iload_n 443 (qf_4 (by decide) rfl) rfl rfl ?_
  refine qr_iconst 444 (qf_4 (by decide) rfl) rfl ?_
  refine qr_iadd 445 (qf_4 (by decide) rfl) rfl ?_
  refine qy_v 3 rfl ?_
  refine qr_iaload 446 (qf_4 (by decide) rfl) rfl (by omega) (by decide) rfl ?_
  refine qy_v (xs 3) rfl ?_
  refine qr_call 449 109 19340 (qf_4 (by decide) rfl) rfl (Nat.le_of_ble_eq_true rfl) (Nat.le_of_ble_eq_true rfl) rfl rfl (lw_twoI (sx_feud (d := 96) hok (rx _) (rx _) (rx _))) ?_
  rintro _ _ ⟨y, hy, rfl, ⟨σ, α, κ, ρ, rfl⟩, hm⟩
  show qr_W (qe 6 xs vb) 100 qx_e0 lw_Q0 (449, [(3, .int (qz 0)), (2, .ref 86), (1, .ref 16), (0, .ref 0)], [.int (qz y)], qw σ α κ ρ, 109, 19340)
  refine qr_aload_n 450 (qf_4 (by decide) rfl) rfl rfl ?_
  refine qr_aload_n 451 (qf_4 (by decide) rfl) rfl rfl ?_
  refine qr_iload_n 452 (qf_4 (by decide) rfl) rfl rfl ?_
  refine qr_iconst 453 (qf_4 (by decide) rfl) rfl ?_
  refine qr_iadd 454 (qf_4 (by decide) rfl) rfl ?_
  refine qy_v 1 rfl ?_
  refine qr_iaload 455 (qf_4 (by decide) rfl) rfl (by omega) (by decide) rfl ?_
  refine qy_v (xs 1) rfl ?_
  refine qr_aload_n 456 (qf_4 (by decide) rfl) rfl rfl ?_
  refine qr_iload_n 457 (qf_4 (by decide) rfl) rfl rfl ?_
  refine qr_iconst 458 (qf_4 (by decide) rfl) rfl ?_
  refine qr_iadd 459 (qf_4 (by decide) rfl) rfl ?_
  refine qy_v 2 rfl ?_
  refine qr_iaload 460 (qf_4 (by decide) rfl) rfl (by omega) (by decide) rfl ?_
  refine qy_v (xs 2) rfl ?_
  refine qr_aload_n 461 (qf_4 (by decide) rfl) rfl rfl ?_
  refine qr_iload_n 462 (qf_4 (by decide) rfl) rfl rfl ?_
  refine qr_iconst 463 (qf_4 (by decide) rfl) rfl ?_
  refine qr_iadd 464 (qf_4 (by decide) rfl) rfl ?_
  refine qy_v 3 rfl ?_
  refine qr_iaload 465 (qf_4 (by decide) rfl) rfl (by omega) (by decide) rfl ?_
  refine qy_v (xs 3) rfl ?_
  refine qr_call 468 109 19340 (qf_4 (by decide) rfl) rfl (Nat.le_of_ble_eq_true rfl) (Nat.le_of_ble_eq_true rfl) rfl rfl hm ?_
  rintro _ w2 rfl
  show qr_W (qe 6 xs vb) 100 qx_e0 lw_Q0 (468, [(3, .int (qz 0)), (2, .ref 86), (1, .ref 16), (0, .ref 0)], [.int (qz y), .int (qz y)], w2, 109, 19340)
  refine qr_icmp_eq 2040 471 (qf_4 (by decide) rfl) rfl rfl hy hy (fun _ => ?_) (fun h => absurd rfl h)
  exact lw_end
set_option maxHeartbeats 4000000 in
set_option maxRecDepth 20000 in
theorem lw_c7 {xs : Nat → Int} {vb : Bool} {s g : Nat → Nat → Int} (hok : qo_ok s g) (rx : ∀ k, -2147483648 ≤ xs k ∧ xs k ≤ 2147483647) : qr_W (qe 6 xs vb) 100 qx_e0 lw_Q0 (473, [(3, .int (qz 0)), (2, .ref 86), (1, .ref 16), (0, .ref 0)], [], qw (qo_s s) (qo_r g) qo_k 82, 109, 19340) := by
  refine qr_aload_n 474 (qf_4 (by decide) rfl) rfl rfl ?_
  refine qr_aload_n 475 (qf_4 (by decide) rfl) rfl rfl ?_
  refine qr_iload_n 476 (qf_4 (by decide) rfl) rfl rfl ?_
  refine qr_iconst 477 (qf_4 (by decide) rfl) rfl ?_
  refine qr_iadd 478 (qf_4 (by decide) rfl) rfl ?_
  refine qy_v 1 rfl ?_
  refine qr_iaload 479 (qf_4 (by decide) rfl) rfl (by omega) (by decide) rfl ?_
  refine qy_v (xs 1) rfl ?_
  refine qr_aload_n 480 (qf_4 (by decide) rfl) rfl rfl ?_
  refine qr_iload_n 481 (qf_4 (by decide) rfl) rfl rfl ?_
  refine qr_iconst 482 (qf_4 (by decide) rfl) rfl ?_
  refine qr_iadd 483 (qf_5 (by decide) rfl) rfl ?_
  refine qy_v 2 rfl ?_
  refine qr_iaload 484 (qf_5 (by decide) rfl) rfl (by omega) (by decide) rfl ?_
  refine qy_v (xs 2) rfl ?_
  refine qr_call 487 109 19340 (qf_5 (by decide) rfl) rfl (Nat.le_of_ble_eq_true rfl) (Nat.le_of_ble_eq_true rfl) rfl rfl (lw_twoI (sx_pay (d := 98) hok (rx _) (rx _))) ?_
  rintro _ _ ⟨y, hy, rfl, ⟨σ, α, κ, ρ, rfl⟩, hm⟩
  show qr_W (qe 6 xs vb) 100 qx_e0 lw_Q0 (487, [(3, .int (qz 0)), (2, .ref 86), (1, .ref 16), (0, .ref 0)], [.int (qz y)], qw σ α κ ρ, 109, 19340)
  refine qr_aload_n 488 (qf_5 (by decide) rfl) rfl rfl ?_
  refine qr_aload_n 489 (qf_5 (by decide) rfl) rfl rfl ?_
  refine qr_iload_n 490 (qf_5 (by decide) rfl) rfl rfl ?_
  refine qr_iconst 491 (qf_5 (by decide) rfl) rfl ?_
  refine qr_iadd 492 (qf_5 (by decide) rfl) rfl ?_
  refine qy_v 1 rfl ?_
  refine qr_iaload 493 (qf_5 (by decide) rfl) rfl (by omega) (by decide) rfl ?_
  refine qy_v (xs 1) rfl ?_
  refine qr_aload_n 494 (qf_5 (by decide) rfl) rfl rfl ?_
  refine qr_iload_n 495 (qf_5 (by decide) rfl) rfl rfl ?_
  refine qr_iconst 496 (qf_5 (by decide) rfl) rfl ?_
  refine qr_iadd 497 (qf_5 (by decide) rfl) rfl ?_
  refine qy_v 2 rfl ?_
  refine qr_iaload 498 (qf_5 (by decide) rfl) rfl (by omega) (by decide) rfl ?_
  refine qy_v (xs 2) rfl ?_
  refine qr_call 501 109 19340 (qf_5 (by decide) rfl) rfl (Nat.le_of_ble_eq_true rfl) (Nat.le_of_ble_eq_true rfl) rfl rfl hm ?_
  rintro _ w2 rfl
  show qr_W (qe 6 xs vb) 100 qx_e0 lw_Q0 (501, [(3, .int (qz 0)), (2, .ref 86), (1, .ref 16), (0, .ref 0)], [.int (qz y), .int (qz y)], w2, 109, 19340)
  refine qr_icmp_eq 2040 504 (qf_5 (by decide) rfl) rfl rfl hy hy (fun _ => ?_) (fun h => absurd rfl h)
  exact lw_end
set_option maxHeartbeats 4000000 in
set_option maxRecDepth 20000 in
theorem lw_c8 {xs : Nat → Int} {vb : Bool} {s g : Nat → Nat → Int} (hok : qo_ok s g) (rx : ∀ k, -2147483648 ≤ xs k ∧ xs k ≤ 2147483647) : qr_W (qe 6 xs vb) 100 qx_e0 lw_Q0 (506, [(3, .int (qz 0)), (2, .ref 86), (1, .ref 16), (0, .ref 0)], [], qw (qo_s s) (qo_r g) qo_k 82, 109, 19340) := by
  refine qr_aload_n 507 (qf_5 (by decide) rfl) rfl rfl ?_
  refine qr_aload_n 508 (qf_5 (by decide) rfl) rfl rfl ?_
  refine qr_iload_n 509 (qf_5 (by decide) rfl) rfl rfl ?_
  refine qr_iconst 510 (qf_5 (by decide) rfl) rfl ?_
  refine qr_iadd 511 (qf_5 (by decide) rfl) rfl ?_
  refine qy_v 1 rfl ?_
  refine qr_iaload 512 (qf_5 (by decide) rfl) rfl (by omega) (by decide) rfl ?_
  refine qy_v (xs 1) rfl ?_
  refine qr_aload_n 513 (qf_5 (by decide) rfl) rfl rfl ?_
  refine qr_iload_n 514 (qf_5 (by decide) rfl) rfl rfl ?_
  refine qr_iconst 515 (qf_5 (by decide) rfl) rfl ?_
  refine qr_iadd 516 (qf_5 (by decide) rfl) rfl ?_
  refine qy_v 2 rfl ?_
  refine qr_iaload 517 (qf_5 (by decide) rfl) rfl (by omega) (by decide) rfl ?_
  refine qy_v (xs 2) rfl ?_
  refine qr_aload_n 518 (qf_5 (by decide) rfl) rfl rfl ?_
  refine qr_iload_n 519 (qf_5 (by decide) rfl) rfl rfl ?_
  refine qr_iconst 520 (qf_5 (by decide) rfl) rfl ?_
  refine qr_iadd 521 (qf_5 (by decide) rfl) rfl ?_
  refine qy_v 3 rfl ?_
  refine qr_iaload 522 (qf_5 (by decide) rfl) rfl (by omega) (by decide) rfl ?_
  refine qy_v (xs 3) rfl ?_
  refine qr_aload_n 523 (qf_5 (by decide) rfl) rfl rfl ?_
  refine qr_iload_n 524 (qf_5 (by decide) rfl) rfl rfl ?_
  refine qr_iconst 525 (qf_5 (by decide) rfl) rfl ?_
  refine qr_iadd 526 (qf_5 (by decide) rfl) rfl ?_
  refine qy_v 4 rfl ?_
  refine qr_iaload 527 (qf_5 (by decide) rfl) rfl (by omega) (by decide) rfl ?_
  refine qy_v (xs 4) rfl ?_
  refine qr_call 530 109 19340 (qf_5 (by decide) rfl) rfl (Nat.le_of_ble_eq_true rfl) (Nat.le_of_ble_eq_true rfl) rfl rfl (lw_twoI (sx_near (d := 97) hok (rx _) (rx _) (rx _) (rx _))) ?_
  rintro _ _ ⟨y, hy, rfl, ⟨σ, α, κ, ρ, rfl⟩, hm⟩
  show qr_W (qe 6 xs vb) 100 qx_e0 lw_Q0 (530, [(3, .int (qz 0)), (2, .ref 86), (1, .ref 16), (0, .ref 0)], [.int (qz y)], qw σ α κ ρ, 109, 19340)
  refine qr_aload_n 531 (qf_5 (by decide) rfl) rfl rfl ?_
  refine qr_aload_n 532 (qf_5 (by decide) rfl) rfl rfl ?_
  refine qr_iload_n 533 (qf_5 (by decide) rfl) rfl rfl ?_
  refine qr_iconst 534 (qf_5 (by decide) rfl) rfl ?_
  refine qr_iadd 535 (qf_5 (by decide) rfl) rfl ?_
  refine qy_v 1 rfl ?_
  refine qr_iaload 536 (qf_5 (by decide) rfl) rfl (by omega) (by decide) rfl ?_
  refine qy_v (xs 1) rfl ?_
  refine qr_aload_n 537 (qf_5 (by decide) rfl) rfl rfl ?_
  refine qr_iload_n 538 (qf_5 (by decide) rfl) rfl rfl ?_
  refine qr_iconst 539 (qf_5 (by decide) rfl) rfl ?_
  refine qr_iadd 540 (qf_5 (by decide) rfl) rfl ?_
  refine qy_v 2 rfl ?_
  refine qr_iaload 541 (qf_6 (by decide) rfl) rfl (by omega) (by decide) rfl ?_
  refine qy_v (xs 2) rfl ?_
  refine qr_aload_n 542 (qf_6 (by decide) rfl) rfl rfl ?_
  refine qr_iload_n 543 (qf_6 (by decide) rfl) rfl rfl ?_
  refine qr_iconst 544 (qf_6 (by decide) rfl) rfl ?_
  refine qr_iadd 545 (qf_6 (by decide) rfl) rfl ?_
  refine qy_v 3 rfl ?_
  refine qr_iaload 546 (qf_6 (by decide) rfl) rfl (by omega) (by decide) rfl ?_
  refine qy_v (xs 3) rfl ?_
  refine qr_aload_n 547 (qf_6 (by decide) rfl) rfl rfl ?_
  refine qr_iload_n 548 (qf_6 (by decide) rfl) rfl rfl ?_
  refine qr_iconst 549 (qf_6 (by decide) rfl) rfl ?_
  refine qr_iadd 550 (qf_6 (by decide) rfl) rfl ?_
  refine qy_v 4 rfl ?_
  refine qr_iaload 551 (qf_6 (by decide) rfl) rfl (by omega) (by decide) rfl ?_
  refine qy_v (xs 4) rfl ?_
  refine qr_call 554 109 19340 (qf_6 (by decide) rfl) rfl (Nat.le_of_ble_eq_true rfl) (Nat.le_of_ble_eq_true rfl) rfl rfl hm ?_
  rintro _ w2 rfl
  show qr_W (qe 6 xs vb) 100 qx_e0 lw_Q0 (554, [(3, .int (qz 0)), (2, .ref 86), (1, .ref 16), (0, .ref 0)], [.int (qz y), .int (qz y)], w2, 109, 19340)
  refine qr_icmp_eq 2040 557 (qf_6 (by decide) rfl) rfl rfl hy hy (fun _ => ?_) (fun h => absurd rfl h)
  exact lw_end
set_option maxHeartbeats 4000000 in
set_option maxRecDepth 20000 in
theorem lw_c9 {xs : Nat → Int} {vb : Bool} {s g : Nat → Nat → Int} (hok : qo_ok s g) (rx : ∀ k, -2147483648 ≤ xs k ∧ xs k ≤ 2147483647) : qr_W (qe 6 xs vb) 100 qx_e0 lw_Q0 (559, [(3, .int (qz 0)), (2, .ref 86), (1, .ref 16), (0, .ref 0)], [], qw (qo_s s) (qo_r g) qo_k 82, 109, 19340) := by
  refine qr_aload_n 560 (qf_6 (by decide) rfl) rfl rfl ?_
  refine qr_aload_n 561 (qf_6 (by decide) rfl) rfl rfl ?_
  refine qr_iload_n 562 (qf_6 (by decide) rfl) rfl rfl ?_
  refine qr_iconst 563 (qf_6 (by decide) rfl) rfl ?_
  refine qr_iadd 564 (qf_6 (by decide) rfl) rfl ?_
  refine qy_v 1 rfl ?_
  refine qr_iaload 565 (qf_6 (by decide) rfl) rfl (by omega) (by decide) rfl ?_
  refine qy_v (xs 1) rfl ?_
  refine qr_aload_n 566 (qf_6 (by decide) rfl) rfl rfl ?_
  refine qr_iload_n 567 (qf_6 (by decide) rfl) rfl rfl ?_
  refine qr_iconst 568 (qf_6 (by decide) rfl) rfl ?_
  refine qr_iadd 569 (qf_6 (by decide) rfl) rfl ?_
  refine qy_v 2 rfl ?_
  refine qr_iaload 570 (qf_6 (by decide) rfl) rfl (by omega) (by decide) rfl ?_
  refine qy_v (xs 2) rfl ?_
  refine qr_i2l 571 (qf_6 (by decide) rfl) (rx _) rfl ?_
  refine qr_bipush 573 (qf_6 (by decide) rfl) (by decide) rfl ?_
  refine qr_lshl 574 (qf_6 (by decide) rfl) rfl ?_
  refine qr_aload_n 575 (qf_6 (by decide) rfl) rfl rfl ?_
  refine qr_iload_n 576 (qf_6 (by decide) rfl) rfl rfl ?_
  refine qr_iconst 577 (qf_6 (by decide) rfl) rfl ?_
  refine qr_iadd 578 (qf_6 (by decide) rfl) rfl ?_
  refine qy_v 3 rfl ?_
  refine qr_iaload 579 (qf_6 (by decide) rfl) rfl (by omega) (by decide) rfl ?_
  refine qy_v (xs 3) rfl ?_
  refine qr_i2l 580 (qf_6 (by decide) rfl) (rx _) rfl ?_
  refine qr_ldc2 4294967295 583 (qf_6 (by decide) rfl) (by decide) rfl ?_
  refine qr_land 584 (qf_6 (by decide) rfl) rfl ?_
  refine qr_lor 585 (qf_6 (by decide) rfl) rfl ?_
  refine qr_aload_n 586 (qf_6 (by decide) rfl) rfl rfl ?_
  refine qr_iload_n 587 (qf_6 (by decide) rfl) rfl rfl ?_
  refine qr_iconst 588 (qf_6 (by decide) rfl) rfl ?_
  refine qr_iadd 589 (qf_6 (by decide) rfl) rfl ?_
  refine qy_v 4 rfl ?_
  refine qr_iaload 590 (qf_6 (by decide) rfl) rfl (by omega) (by decide) rfl ?_
  refine qy_v (xs 4) rfl ?_
  refine qr_aload_n 591 (qf_6 (by decide) rfl) rfl rfl ?_
  refine qr_iload_n 592 (qf_6 (by decide) rfl) rfl rfl ?_
  refine qr_iconst 593 (qf_6 (by decide) rfl) rfl ?_
  refine qr_iadd 594 (qf_6 (by decide) rfl) rfl ?_
  refine qy_v 5 rfl ?_
  refine qr_iaload 595 (qf_6 (by decide) rfl) rfl (by omega) (by decide) rfl ?_
  refine qy_v (xs 5) rfl ?_
  refine qr_call 598 109 19340 (qf_6 (by decide) rfl) rfl (Nat.le_of_ble_eq_true rfl) (Nat.le_of_ble_eq_true rfl) rfl rfl (lw_twoI (sx_peace (d := 97) hok (rx _) (ql_or_r _ _) (rx _) (rx _))) ?_
  rintro _ _ ⟨y, hy, rfl, ⟨σ, α, κ, ρ, rfl⟩, hm⟩
  show qr_W (qe 6 xs vb) 100 qx_e0 lw_Q0 (598, [(3, .int (qz 0)), (2, .ref 86), (1, .ref 16), (0, .ref 0)], [.int (qz y)], qw σ α κ ρ, 109, 19340)
  refine qr_aload_n 599 (qf_6 (by decide) rfl) rfl rfl ?_
  refine qr_aload_n 600 (qf_7 (by decide) rfl) rfl rfl ?_
  refine qr_iload_n 601 (qf_7 (by decide) rfl) rfl rfl ?_
  refine qr_iconst 602 (qf_7 (by decide) rfl) rfl ?_
  refine qr_iadd 603 (qf_7 (by decide) rfl) rfl ?_
  refine qy_v 1 rfl ?_
  refine qr_iaload 604 (qf_7 (by decide) rfl) rfl (by omega) (by decide) rfl ?_
  refine qy_v (xs 1) rfl ?_
  refine qr_aload_n 605 (qf_7 (by decide) rfl) rfl rfl ?_
  refine qr_iload_n 606 (qf_7 (by decide) rfl) rfl rfl ?_
  refine qr_iconst 607 (qf_7 (by decide) rfl) rfl ?_
  refine qr_iadd 608 (qf_7 (by decide) rfl) rfl ?_
  refine qy_v 2 rfl ?_
  refine qr_iaload 609 (qf_7 (by decide) rfl) rfl (by omega) (by decide) rfl ?_
  refine qy_v (xs 2) rfl ?_
  refine qr_i2l 610 (qf_7 (by decide) rfl) (rx _) rfl ?_
  refine qr_bipush 612 (qf_7 (by decide) rfl) (by decide) rfl ?_
  refine qr_lshl 613 (qf_7 (by decide) rfl) rfl ?_
  refine qr_aload_n 614 (qf_7 (by decide) rfl) rfl rfl ?_
  refine qr_iload_n 615 (qf_7 (by decide) rfl) rfl rfl ?_
  refine qr_iconst 616 (qf_7 (by decide) rfl) rfl ?_
  refine qr_iadd 617 (qf_7 (by decide) rfl) rfl ?_
  refine qy_v 3 rfl ?_
  refine qr_iaload 618 (qf_7 (by decide) rfl) rfl (by omega) (by decide) rfl ?_
  refine qy_v (xs 3) rfl ?_
  refine qr_i2l 619 (qf_7 (by decide) rfl) (rx _) rfl ?_
  refine qr_ldc2 4294967295 622 (qf_7 (by decide) rfl) (by decide) rfl ?_
  refine qr_land 623 (qf_7 (by decide) rfl) rfl ?_
  refine qr_lor 624 (qf_7 (by decide) rfl) rfl ?_
  refine qr_aload_n 625 (qf_7 (by decide) rfl) rfl rfl ?_
  refine qr_iload_n 626 (qf_7 (by decide) rfl) rfl rfl ?_
  refine qr_iconst 627 (qf_7 (by decide) rfl) rfl ?_
  refine qr_iadd 628 (qf_7 (by decide) rfl) rfl ?_
  refine qy_v 4 rfl ?_
  refine qr_iaload 629 (qf_7 (by decide) rfl) rfl (by omega) (by decide) rfl ?_
  refine qy_v (xs 4) rfl ?_
  refine qr_aload_n 630 (qf_7 (by decide) rfl) rfl rfl ?_
  refine qr_iload_n 631 (qf_7 (by decide) rfl) rfl rfl ?_
  refine qr_iconst 632 (qf_7 (by decide) rfl) rfl ?_
  refine qr_iadd 633 (qf_7 (by decide) rfl) rfl ?_
  refine qy_v 5 rfl ?_
  refine qr_iaload 634 (qf_7 (by decide) rfl) rfl (by omega) (by decide) rfl ?_
  refine qy_v (xs 5) rfl ?_
  refine qr_call 637 109 19340 (qf_7 (by decide) rfl) rfl (Nat.le_of_ble_eq_true rfl) (Nat.le_of_ble_eq_true rfl) rfl rfl hm ?_
  rintro _ w2 rfl
  show qr_W (qe 6 xs vb) 100 qx_e0 lw_Q0 (637, [(3, .int (qz 0)), (2, .ref 86), (1, .ref 16), (0, .ref 0)], [.int (qz y), .int (qz y)], w2, 109, 19340)
  refine qr_icmp_eq 2040 640 (qf_7 (by decide) rfl) rfl rfl hy hy (fun _ => ?_) (fun h => absurd rfl h)
  exact lw_end
set_option maxHeartbeats 4000000 in
set_option maxRecDepth 20000 in
theorem lw_c10 {xs : Nat → Int} {vb : Bool} {s g : Nat → Nat → Int} (hok : qo_ok s g) (rx : ∀ k, -2147483648 ≤ xs k ∧ xs k ≤ 2147483647) : qr_W (qe 6 xs vb) 100 qx_e0 lw_Q0 (642, [(3, .int (qz 0)), (2, .ref 86), (1, .ref 16), (0, .ref 0)], [], qw (qo_s s) (qo_r g) qo_k 82, 109, 19340) := by
  refine qr_aload_n 643 (qf_7 (by decide) rfl) rfl rfl ?_
  refine qr_aload_n 644 (qf_7 (by decide) rfl) rfl rfl ?_
  refine qr_iload_n 645 (qf_7 (by decide) rfl) rfl rfl ?_
  refine qr_iconst 646 (qf_7 (by decide) rfl) rfl ?_
  refine qr_iadd 647 (qf_7 (by decide) rfl) rfl ?_
  refine qy_v 1 rfl ?_
  refine qr_iaload 648 (qf_7 (by decide) rfl) rfl (by omega) (by decide) rfl ?_
  refine qy_v (xs 1) rfl ?_
  refine qr_aload_n 649 (qf_7 (by decide) rfl) rfl rfl ?_
  refine qr_iload_n 650 (qf_7 (by decide) rfl) rfl rfl ?_
  refine qr_iconst 651 (qf_7 (by decide) rfl) rfl ?_
  refine qr_iadd 652 (qf_7 (by decide) rfl) rfl ?_
  refine qy_v 2 rfl ?_
  refine qr_iaload 653 (qf_7 (by decide) rfl) rfl (by omega) (by decide) rfl ?_
  refine qy_v (xs 2) rfl ?_
  refine qr_call 656 109 19340 (qf_7 (by decide) rfl) rfl (Nat.le_of_ble_eq_true rfl) (Nat.le_of_ble_eq_true rfl) rfl rfl (lw_twoI (sx_ofPeace (d := 97) hok (rx _) (rx _))) ?_
  rintro _ _ ⟨y, hy, rfl, ⟨σ, α, κ, ρ, rfl⟩, hm⟩
  show qr_W (qe 6 xs vb) 100 qx_e0 lw_Q0 (656, [(3, .int (qz 0)), (2, .ref 86), (1, .ref 16), (0, .ref 0)], [.int (qz y)], qw σ α κ ρ, 109, 19340)
  refine qr_aload_n 657 (qf_7 (by decide) rfl) rfl rfl ?_
  refine qr_aload_n 658 (qf_7 (by decide) rfl) rfl rfl ?_
  refine qr_iload_n 659 (qf_8 (by decide) rfl) rfl rfl ?_
  refine qr_iconst 660 (qf_8 (by decide) rfl) rfl ?_
  refine qr_iadd 661 (qf_8 (by decide) rfl) rfl ?_
  refine qy_v 1 rfl ?_
  refine qr_iaload 662 (qf_8 (by decide) rfl) rfl (by omega) (by decide) rfl ?_
  refine qy_v (xs 1) rfl ?_
  refine qr_aload_n 663 (qf_8 (by decide) rfl) rfl rfl ?_
  refine qr_iload_n 664 (qf_8 (by decide) rfl) rfl rfl ?_
  refine qr_iconst 665 (qf_8 (by decide) rfl) rfl ?_
  refine qr_iadd 666 (qf_8 (by decide) rfl) rfl ?_
  refine qy_v 2 rfl ?_
  refine qr_iaload 667 (qf_8 (by decide) rfl) rfl (by omega) (by decide) rfl ?_
  refine qy_v (xs 2) rfl ?_
  refine qr_call 670 109 19340 (qf_8 (by decide) rfl) rfl (Nat.le_of_ble_eq_true rfl) (Nat.le_of_ble_eq_true rfl) rfl rfl hm ?_
  rintro _ w2 rfl
  show qr_W (qe 6 xs vb) 100 qx_e0 lw_Q0 (670, [(3, .int (qz 0)), (2, .ref 86), (1, .ref 16), (0, .ref 0)], [.int (qz y), .int (qz y)], w2, 109, 19340)
  refine qr_icmp_eq 2040 673 (qf_8 (by decide) rfl) rfl rfl hy hy (fun _ => ?_) (fun h => absurd rfl h)
  exact lw_end
set_option maxHeartbeats 4000000 in
set_option maxRecDepth 20000 in
theorem lw_c11 {xs : Nat → Int} {vb : Bool} {s g : Nat → Nat → Int} (hok : qo_ok s g) (rx : ∀ k, -2147483648 ≤ xs k ∧ xs k ≤ 2147483647) : qr_W (qe 6 xs vb) 100 qx_e0 lw_Q0 (675, [(3, .int (qz 0)), (2, .ref 86), (1, .ref 16), (0, .ref 0)], [], qw (qo_s s) (qo_r g) qo_k 82, 109, 19340) := by
  refine qr_aload_n 676 (qf_8 (by decide) rfl) rfl rfl ?_
  refine qr_aload_n 677 (qf_8 (by decide) rfl) rfl rfl ?_
  refine qr_iload_n 678 (qf_8 (by decide) rfl) rfl rfl ?_
  refine qr_iconst 679 (qf_8 (by decide) rfl) rfl ?_
  refine qr_iadd 680 (qf_8 (by decide) rfl) rfl ?_
  refine qy_v 1 rfl ?_
  refine qr_iaload 681 (qf_8 (by decide) rfl) rfl (by omega) (by decide) rfl ?_
  refine qy_v (xs 1) rfl ?_
  refine qr_aload_n 682 (qf_8 (by decide) rfl) rfl rfl ?_
  refine qr_iload_n 683 (qf_8 (by decide) rfl) rfl rfl ?_
  refine qr_iconst 684 (qf_8 (by decide) rfl) rfl ?_
  refine qr_iadd 685 (qf_8 (by decide) rfl) rfl ?_
  refine qy_v 2 rfl ?_
  refine qr_iaload 686 (qf_8 (by decide) rfl) rfl (by omega) (by decide) rfl ?_
  refine qy_v (xs 2) rfl ?_
  refine qr_aload_n 687 (qf_8 (by decide) rfl) rfl rfl ?_
  refine qr_iload_n 688 (qf_8 (by decide) rfl) rfl rfl ?_
  refine qr_iconst 689 (qf_8 (by decide) rfl) rfl ?_
  refine qr_iadd 690 (qf_8 (by decide) rfl) rfl ?_
  refine qy_v 3 rfl ?_
  refine qr_iaload 691 (qf_8 (by decide) rfl) rfl (by omega) (by decide) rfl ?_
  refine qy_v (xs 3) rfl ?_
  refine qr_call 694 109 19340 (qf_8 (by decide) rfl) rfl (Nat.le_of_ble_eq_true rfl) (Nat.le_of_ble_eq_true rfl) rfl rfl (lw_twoI (sx_cover (d := 97) hok (rx _) (rx _) (rx _))) ?_
  rintro _ _ ⟨y, hy, rfl, ⟨σ, α, κ, ρ, rfl⟩, hm⟩
  show qr_W (qe 6 xs vb) 100 qx_e0 lw_Q0 (694, [(3, .int (qz 0)), (2, .ref 86), (1, .ref 16), (0, .ref 0)], [.int (qz y)], qw σ α κ ρ, 109, 19340)
  refine qr_aload_n 695 (qf_8 (by decide) rfl) rfl rfl ?_
  refine qr_aload_n 696 (qf_8 (by decide) rfl) rfl rfl ?_
  refine qr_iload_n 697 (qf_8 (by decide) rfl) rfl rfl ?_
  refine qr_iconst 698 (qf_8 (by decide) rfl) rfl ?_
  refine qr_iadd 699 (qf_8 (by decide) rfl) rfl ?_
  refine qy_v 1 rfl ?_
  refine qr_iaload 700 (qf_8 (by decide) rfl) rfl (by omega) (by decide) rfl ?_
  refine qy_v (xs 1) rfl ?_
  refine qr_aload_n 701 (qf_8 (by decide) rfl) rfl rfl ?_
  refine qr_iload_n 702 (qf_8 (by decide) rfl) rfl rfl ?_
  refine qr_iconst 703 (qf_8 (by decide) rfl) rfl ?_
  refine qr_iadd 704 (qf_8 (by decide) rfl) rfl ?_
  refine qy_v 2 rfl ?_
  refine qr_iaload 705 (qf_8 (by decide) rfl) rfl (by omega) (by decide) rfl ?_
  refine qy_v (xs 2) rfl ?_
  refine qr_aload_n 706 (qf_8 (by decide) rfl) rfl rfl ?_
  refine qr_iload_n 707 (qf_8 (by decide) rfl) rfl rfl ?_
  refine qr_iconst 708 (qf_8 (by decide) rfl) rfl ?_
  refine qr_iadd 709 (qf_8 (by decide) rfl) rfl ?_
  refine qy_v 3 rfl ?_
  refine qr_iaload 710 (qf_8 (by decide) rfl) rfl (by omega) (by decide) rfl ?_
  refine qy_v (xs 3) rfl ?_
  refine qr_call 713 109 19340 (qf_8 (by decide) rfl) rfl (Nat.le_of_ble_eq_true rfl) (Nat.le_of_ble_eq_true rfl) rfl rfl hm ?_
  rintro _ w2 rfl
  show qr_W (qe 6 xs vb) 100 qx_e0 lw_Q0 (713, [(3, .int (qz 0)), (2, .ref 86), (1, .ref 16), (0, .ref 0)], [.int (qz y), .int (qz y)], w2, 109, 19340)
  refine qr_icmp_eq 2040 716 (qf_8 (by decide) rfl) rfl rfl hy hy (fun _ => ?_) (fun h => absurd rfl h)
  exact lw_end
set_option maxHeartbeats 4000000 in
set_option maxRecDepth 20000 in
theorem lw_c12 {xs : Nat → Int} {vb : Bool} {s g : Nat → Nat → Int} (hok : qo_ok s g) (rx : ∀ k, -2147483648 ≤ xs k ∧ xs k ≤ 2147483647) : qr_W (qe 6 xs vb) 100 qx_e0 lw_Q0 (718, [(3, .int (qz 0)), (2, .ref 86), (1, .ref 16), (0, .ref 0)], [], qw (qo_s s) (qo_r g) qo_k 82, 109, 19340) := by
  refine qr_aload_n 719 (qf_9 (by decide) rfl) rfl rfl ?_
  refine qr_aload_n 720 (qf_9 (by decide) rfl) rfl rfl ?_
  refine qr_iload_n 721 (qf_9 (by decide) rfl) rfl rfl ?_
  refine qr_iconst 722 (qf_9 (by decide) rfl) rfl ?_
  refine qr_iadd 723 (qf_9 (by decide) rfl) rfl ?_
  refine qy_v 1 rfl ?_
  refine qr_iaload 724 (qf_9 (by decide) rfl) rfl (by omega) (by decide) rfl ?_
  refine qy_v (xs 1) rfl ?_
  refine qr_aload_n 725 (qf_9 (by decide) rfl) rfl rfl ?_
  refine qr_iload_n 726 (qf_9 (by decide) rfl) rfl rfl ?_
  refine qr_iconst 727 (qf_9 (by decide) rfl) rfl ?_
  refine qr_iadd 728 (qf_9 (by decide) rfl) rfl ?_
  refine qy_v 2 rfl ?_
  refine qr_iaload 729 (qf_9 (by decide) rfl) rfl (by omega) (by decide) rfl ?_
  refine qy_v (xs 2) rfl ?_
  refine qr_aload_n 730 (qf_9 (by decide) rfl) rfl rfl ?_
  refine qr_iload_n 731 (qf_9 (by decide) rfl) rfl rfl ?_
  refine qr_iconst 732 (qf_9 (by decide) rfl) rfl ?_
  refine qr_iadd 733 (qf_9 (by decide) rfl) rfl ?_
  refine qy_v 3 rfl ?_
  refine qr_iaload 734 (qf_9 (by decide) rfl) rfl (by omega) (by decide) rfl ?_
  refine qy_v (xs 3) rfl ?_
  refine qr_call 737 109 19340 (qf_9 (by decide) rfl) rfl (Nat.le_of_ble_eq_true rfl) (Nat.le_of_ble_eq_true rfl) rfl rfl (lw_twoI (sx_holds (d := 97) hok (rx _) (rx _) (rx _))) ?_
  rintro _ _ ⟨y, hy, rfl, ⟨σ, α, κ, ρ, rfl⟩, hm⟩
  show qr_W (qe 6 xs vb) 100 qx_e0 lw_Q0 (737, [(3, .int (qz 0)), (2, .ref 86), (1, .ref 16), (0, .ref 0)], [.int (qz y)], qw σ α κ ρ, 109, 19340)
  refine qr_aload_n 738 (qf_9 (by decide) rfl) rfl rfl ?_
  refine qr_aload_n 739 (qf_9 (by decide) rfl) rfl rfl ?_
  refine qr_iload_n 740 (qf_9 (by decide) rfl) rfl rfl ?_
  refine qr_iconst 741 (qf_9 (by decide) rfl) rfl ?_
  refine qr_iadd 742 (qf_9 (by decide) rfl) rfl ?_
  refine qy_v 1 rfl ?_
  refine qr_iaload 743 (qf_9 (by decide) rfl) rfl (by omega) (by decide) rfl ?_
  refine qy_v (xs 1) rfl ?_
  refine qr_aload_n 744 (qf_9 (by decide) rfl) rfl rfl ?_
  refine qr_iload_n 745 (qf_9 (by decide) rfl) rfl rfl ?_
  refine qr_iconst 746 (qf_9 (by decide) rfl) rfl ?_
  refine qr_iadd 747 (qf_9 (by decide) rfl) rfl ?_
  refine qy_v 2 rfl ?_
  refine qr_iaload 748 (qf_9 (by decide) rfl) rfl (by omega) (by decide) rfl ?_
  refine qy_v (xs 2) rfl ?_
  refine qr_aload_n 749 (qf_9 (by decide) rfl) rfl rfl ?_
  refine qr_iload_n 750 (qf_9 (by decide) rfl) rfl rfl ?_
  refine qr_iconst 751 (qf_9 (by decide) rfl) rfl ?_
  refine qr_iadd 752 (qf_9 (by decide) rfl) rfl ?_
  refine qy_v 3 rfl ?_
  refine qr_iaload 753 (qf_9 (by decide) rfl) rfl (by omega) (by decide) rfl ?_
  refine qy_v (xs 3) rfl ?_
  refine qr_call 756 109 19340 (qf_9 (by decide) rfl) rfl (Nat.le_of_ble_eq_true rfl) (Nat.le_of_ble_eq_true rfl) rfl rfl hm ?_
  rintro _ w2 rfl
  show qr_W (qe 6 xs vb) 100 qx_e0 lw_Q0 (756, [(3, .int (qz 0)), (2, .ref 86), (1, .ref 16), (0, .ref 0)], [.int (qz y), .int (qz y)], w2, 109, 19340)
  refine qr_icmp_eq 2040 759 (qf_9 (by decide) rfl) rfl rfl hy hy (fun _ => ?_) (fun h => absurd rfl h)
  exact lw_end
set_option maxHeartbeats 4000000 in
set_option maxRecDepth 20000 in
theorem lw_c13 {xs : Nat → Int} {vb : Bool} {s g : Nat → Nat → Int} (hok : qo_ok s g) (rx : ∀ k, -2147483648 ≤ xs k ∧ xs k ≤ 2147483647) : qr_W (qe 6 xs vb) 100 qx_e0 lw_Q0 (761, [(3, .int (qz 0)), (2, .ref 86), (1, .ref 16), (0, .ref 0)], [], qw (qo_s s) (qo_r g) qo_k 82, 109, 19340) := by
  refine qr_aload_n 762 (qf_9 (by decide) rfl) rfl rfl ?_
  refine qr_aload_n 763 (qf_9 (by decide) rfl) rfl rfl ?_
  refine qr_iload_n 764 (qf_9 (by decide) rfl) rfl rfl ?_
  refine qr_iconst 765 (qf_9 (by decide) rfl) rfl ?_
  refine qr_iadd 766 (qf_9 (by decide) rfl) rfl ?_
  refine qy_v 1 rfl ?_
  refine qr_iaload 767 (qf_9 (by decide) rfl) rfl (by omega) (by decide) rfl ?_
  refine qy_v (xs 1) rfl ?_
  refine qr_aload_n 768 (qf_9 (by decide) rfl) rfl rfl ?_
  refine qr_iload_n 769 (qf_9 (by decide) rfl) rfl rfl ?_
  refine qr_iconst 770 (qf_9 (by decide) rfl) rfl ?_
  refine qr_iadd 771 (qf_9 (by decide) rfl) rfl ?_
  refine qy_v 2 rfl ?_
  refine qr_iaload 772 (qf_9 (by decide) rfl) rfl (by omega) (by decide) rfl ?_
  refine qy_v (xs 2) rfl ?_
  refine qr_call 775 109 19340 (qf_9 (by decide) rfl) rfl (Nat.le_of_ble_eq_true rfl) (Nat.le_of_ble_eq_true rfl) rfl rfl (lw_twoI (sx_between (d := 96) hok (rx _) (rx _))) ?_
  rintro _ _ ⟨y, hy, rfl, ⟨σ, α, κ, ρ, rfl⟩, hm⟩
  show qr_W (qe 6 xs vb) 100 qx_e0 lw_Q0 (775, [(3, .int (qz 0)), (2, .ref 86), (1, .ref 16), (0, .ref 0)], [.int (qz y)], qw σ α κ ρ, 109, 19340)
  refine qr_aload_n 776 (qf_9 (by decide) rfl) rfl rfl ?_
  refine qr_aload_n 777 (qf_10 (by decide) rfl) rfl rfl ?_
  refine qr_iload_n 778 (qf_10 (by decide) rfl) rfl rfl ?_
  refine qr_iconst 779 (qf_10 (by decide) rfl) rfl ?_
  refine qr_iadd 780 (qf_10 (by decide) rfl) rfl ?_
  refine qy_v 1 rfl ?_
  refine qr_iaload 781 (qf_10 (by decide) rfl) rfl (by omega) (by decide) rfl ?_
  refine qy_v (xs 1) rfl ?_
  refine qr_aload_n 782 (qf_10 (by decide) rfl) rfl rfl ?_
  refine qr_iload_n 783 (qf_10 (by decide) rfl) rfl rfl ?_
  refine qr_iconst 784 (qf_10 (by decide) rfl) rfl ?_
  refine qr_iadd 785 (qf_10 (by decide) rfl) rfl ?_
  refine qy_v 2 rfl ?_
  refine qr_iaload 786 (qf_10 (by decide) rfl) rfl (by omega) (by decide) rfl ?_
  refine qy_v (xs 2) rfl ?_
  refine qr_call 789 109 19340 (qf_10 (by decide) rfl) rfl (Nat.le_of_ble_eq_true rfl) (Nat.le_of_ble_eq_true rfl) rfl rfl hm ?_
  rintro _ w2 rfl
  show qr_W (qe 6 xs vb) 100 qx_e0 lw_Q0 (789, [(3, .int (qz 0)), (2, .ref 86), (1, .ref 16), (0, .ref 0)], [.int (qz y), .int (qz y)], w2, 109, 19340)
  refine qr_icmp_eq 2040 792 (qf_10 (by decide) rfl) rfl rfl hy hy (fun _ => ?_) (fun h => absurd rfl h)
  exact lw_end
set_option maxHeartbeats 4000000 in
set_option maxRecDepth 20000 in
theorem lw_c14 {xs : Nat → Int} {vb : Bool} {s g : Nat → Nat → Int} (hok : qo_ok s g) (rx : ∀ k, -2147483648 ≤ xs k ∧ xs k ≤ 2147483647) : qr_W (qe 6 xs vb) 100 qx_e0 lw_Q0 (794, [(3, .int (qz 0)), (2, .ref 86), (1, .ref 16), (0, .ref 0)], [], qw (qo_s s) (qo_r g) qo_k 82, 109, 19340) := by
  refine qr_aload_n 795 (qf_10 (by decide) rfl) rfl rfl ?_
  refine qr_aload_n 796 (qf_10 (by decide) rfl) rfl rfl ?_
  refine qr_iload_n 797 (qf_10 (by decide) rfl) rfl rfl ?_
  refine qr_iconst 798 (qf_10 (by decide) rfl) rfl ?_
  refine qr_iadd 799 (qf_10 (by decide) rfl) rfl ?_
  refine qy_v 1 rfl ?_
  refine qr_iaload 800 (qf_10 (by decide) rfl) rfl (by omega) (by decide) rfl ?_
  refine qy_v (xs 1) rfl ?_
  refine qr_aload_n 801 (qf_10 (by decide) rfl) rfl rfl ?_
  refine qr_iload_n 802 (qf_10 (by decide) rfl) rfl rfl ?_
  refine qr_iconst 803 (qf_10 (by decide) rfl) rfl ?_
  refine qr_iadd 804 (qf_10 (by decide) rfl) rfl ?_
  refine qy_v 2 rfl ?_
  refine qr_iaload 805 (qf_10 (by decide) rfl) rfl (by omega) (by decide) rfl ?_
  refine qy_v (xs 2) rfl ?_
  refine qr_call 808 109 19340 (qf_10 (by decide) rfl) rfl (Nat.le_of_ble_eq_true rfl) (Nat.le_of_ble_eq_true rfl) rfl rfl (lw_twoI (sx_proof (d := 96) hok (rx _) (rx _))) ?_
  rintro _ _ ⟨y, hy, rfl, ⟨σ, α, κ, ρ, rfl⟩, hm⟩
  show qr_W (qe 6 xs vb) 100 qx_e0 lw_Q0 (808, [(3, .int (qz 0)), (2, .ref 86), (1, .ref 16), (0, .ref 0)], [.int (qz y)], qw σ α κ ρ, 109, 19340)
  refine qr_aload_n 809 (qf_10 (by decide) rfl) rfl rfl ?_
  refine qr_aload_n 810 (qf_10 (by decide) rfl) rfl rfl ?_
  refine qr_iload_n 811 (qf_10 (by decide) rfl) rfl rfl ?_
  refine qr_iconst 812 (qf_10 (by decide) rfl) rfl ?_
  refine qr_iadd 813 (qf_10 (by decide) rfl) rfl ?_
  refine qy_v 1 rfl ?_
  refine qr_iaload 814 (qf_10 (by decide) rfl) rfl (by omega) (by decide) rfl ?_
  refine qy_v (xs 1) rfl ?_
  refine qr_aload_n 815 (qf_10 (by decide) rfl) rfl rfl ?_
  refine qr_iload_n 816 (qf_10 (by decide) rfl) rfl rfl ?_
  refine qr_iconst 817 (qf_10 (by decide) rfl) rfl ?_
  refine qr_iadd 818 (qf_10 (by decide) rfl) rfl ?_
  refine qy_v 2 rfl ?_
  refine qr_iaload 819 (qf_10 (by decide) rfl) rfl (by omega) (by decide) rfl ?_
  refine qy_v (xs 2) rfl ?_
  refine qr_call 822 109 19340 (qf_10 (by decide) rfl) rfl (Nat.le_of_ble_eq_true rfl) (Nat.le_of_ble_eq_true rfl) rfl rfl hm ?_
  rintro _ w2 rfl
  show qr_W (qe 6 xs vb) 100 qx_e0 lw_Q0 (822, [(3, .int (qz 0)), (2, .ref 86), (1, .ref 16), (0, .ref 0)], [.int (qz y), .int (qz y)], w2, 109, 19340)
  refine qr_icmp_eq 2040 825 (qf_10 (by decide) rfl) rfl rfl hy hy (fun _ => ?_) (fun h => absurd rfl h)
  exact lw_end
set_option maxHeartbeats 4000000 in
set_option maxRecDepth 20000 in
theorem lw_c15 {xs : Nat → Int} {vb : Bool} {s g : Nat → Nat → Int} (hok : qo_ok s g) (rx : ∀ k, -2147483648 ≤ xs k ∧ xs k ≤ 2147483647) : qr_W (qe 6 xs vb) 100 qx_e0 lw_Q0 (827, [(3, .int (qz 0)), (2, .ref 86), (1, .ref 16), (0, .ref 0)], [], qw (qo_s s) (qo_r g) qo_k 82, 109, 19340) := by
  refine qr_aload_n 828 (qf_10 (by decide) rfl) rfl rfl ?_
  refine qr_aload_n 829 (qf_10 (by decide) rfl) rfl rfl ?_
  refine qr_iload_n 830 (qf_10 (by decide) rfl) rfl rfl ?_
  refine qr_iconst 831 (qf_10 (by decide) rfl) rfl ?_
  refine qr_iadd 832 (qf_10 (by decide) rfl) rfl ?_
  refine qy_v 1 rfl ?_
  refine qr_iaload 833 (qf_10 (by decide) rfl) rfl (by omega) (by decide) rfl ?_
  refine qy_v (xs 1) rfl ?_
  refine qr_aload_n 834 (qf_10 (by decide) rfl) rfl rfl ?_
  refine qr_iload_n 835 (qf_10 (by decide) rfl) rfl rfl ?_
  refine qr_iconst 836 (qf_10 (by decide) rfl) rfl ?_
  refine qr_iadd 837 (qf_11 (by decide) rfl) rfl ?_
  refine qy_v 2 rfl ?_
  refine qr_iaload 838 (qf_11 (by decide) rfl) rfl (by omega) (by decide) rfl ?_
  refine qy_v (xs 2) rfl ?_
  refine qr_call 841 109 19340 (qf_11 (by decide) rfl) rfl (Nat.le_of_ble_eq_true rfl) (Nat.le_of_ble_eq_true rfl) rfl rfl (lw_twoI (sx_feed (d := 98) hok (rx _) (rx _))) ?_
  rintro _ _ ⟨y, hy, rfl, ⟨σ, α, κ, ρ, rfl⟩, hm⟩
  show qr_W (qe 6 xs vb) 100 qx_e0 lw_Q0 (841, [(3, .int (qz 0)), (2, .ref 86), (1, .ref 16), (0, .ref 0)], [.int (qz y)], qw σ α κ ρ, 109, 19340)
  refine qr_aload_n 842 (qf_11 (by decide) rfl) rfl rfl ?_
  refine qr_aload_n 843 (qf_11 (by decide) rfl) rfl rfl ?_
  refine qr_iload_n 844 (qf_11 (by decide) rfl) rfl rfl ?_
  refine qr_iconst 845 (qf_11 (by decide) rfl) rfl ?_
  refine qr_iadd 846 (qf_11 (by decide) rfl) rfl ?_
  refine qy_v 1 rfl ?_
  refine qr_iaload 847 (qf_11 (by decide) rfl) rfl (by omega) (by decide) rfl ?_
  refine qy_v (xs 1) rfl ?_
  refine qr_aload_n 848 (qf_11 (by decide) rfl) rfl rfl ?_
  refine qr_iload_n 849 (qf_11 (by decide) rfl) rfl rfl ?_
  refine qr_iconst 850 (qf_11 (by decide) rfl) rfl ?_
  refine qr_iadd 851 (qf_11 (by decide) rfl) rfl ?_
  refine qy_v 2 rfl ?_
  refine qr_iaload 852 (qf_11 (by decide) rfl) rfl (by omega) (by decide) rfl ?_
  refine qy_v (xs 2) rfl ?_
  refine qr_call 855 109 19340 (qf_11 (by decide) rfl) rfl (Nat.le_of_ble_eq_true rfl) (Nat.le_of_ble_eq_true rfl) rfl rfl hm ?_
  rintro _ w2 rfl
  show qr_W (qe 6 xs vb) 100 qx_e0 lw_Q0 (855, [(3, .int (qz 0)), (2, .ref 86), (1, .ref 16), (0, .ref 0)], [.int (qz y), .int (qz y)], w2, 109, 19340)
  refine qr_icmp_eq 2040 858 (qf_11 (by decide) rfl) rfl rfl hy hy (fun _ => ?_) (fun h => absurd rfl h)
  exact lw_end
set_option maxHeartbeats 4000000 in
set_option maxRecDepth 20000 in
theorem lw_c16 {xs : Nat → Int} {vb : Bool} {s g : Nat → Nat → Int} (hok : qo_ok s g) (rx : ∀ k, -2147483648 ≤ xs k ∧ xs k ≤ 2147483647) : qr_W (qe 6 xs vb) 100 qx_e0 lw_Q0 (860, [(3, .int (qz 0)), (2, .ref 86), (1, .ref 16), (0, .ref 0)], [], qw (qo_s s) (qo_r g) qo_k 82, 109, 19340) := by
  refine qr_aload_n 861 (qf_11 (by decide) rfl) rfl rfl ?_
  refine qr_aload_n 862 (qf_11 (by decide) rfl) rfl rfl ?_
  refine qr_iload_n 863 (qf_11 (by decide) rfl) rfl rfl ?_
  refine qr_iconst 864 (qf_11 (by decide) rfl) rfl ?_
  refine qr_iadd 865 (qf_11 (by decide) rfl) rfl ?_
  refine qy_v 1 rfl ?_
  refine qr_iaload 866 (qf_11 (by decide) rfl) rfl (by omega) (by decide) rfl ?_
  refine qy_v (xs 1) rfl ?_
  refine qr_call 869 109 19340 (qf_11 (by decide) rfl) rfl (Nat.le_of_ble_eq_true rfl) (Nat.le_of_ble_eq_true rfl) rfl rfl (lw_twoI (sx_custom (d := 88) hok (rx _))) ?_
  rintro _ _ ⟨y, hy, rfl, ⟨σ, α, κ, ρ, rfl⟩, hm⟩
  show qr_W (qe 6 xs vb) 100 qx_e0 lw_Q0 (869, [(3, .int (qz 0)), (2, .ref 86), (1, .ref 16), (0, .ref 0)], [.int (qz y)], qw σ α κ ρ, 109, 19340)
  refine qr_aload_n 870 (qf_11 (by decide) rfl) rfl rfl ?_
  refine qr_aload_n 871 (qf_11 (by decide) rfl) rfl rfl ?_
  refine qr_iload_n 872 (qf_11 (by decide) rfl) rfl rfl ?_
  refine qr_iconst 873 (qf_11 (by decide) rfl) rfl ?_
  refine qr_iadd 874 (qf_11 (by decide) rfl) rfl ?_
  refine qy_v 1 rfl ?_
  refine qr_iaload 875 (qf_11 (by decide) rfl) rfl (by omega) (by decide) rfl ?_
  refine qy_v (xs 1) rfl ?_
  refine qr_call 878 109 19340 (qf_11 (by decide) rfl) rfl (Nat.le_of_ble_eq_true rfl) (Nat.le_of_ble_eq_true rfl) rfl rfl hm ?_
  rintro _ w2 rfl
  show qr_W (qe 6 xs vb) 100 qx_e0 lw_Q0 (878, [(3, .int (qz 0)), (2, .ref 86), (1, .ref 16), (0, .ref 0)], [.int (qz y), .int (qz y)], w2, 109, 19340)
  refine qr_icmp_eq 2040 881 (qf_11 (by decide) rfl) rfl rfl hy hy (fun _ => ?_) (fun h => absurd rfl h)
  exact lw_end
set_option maxHeartbeats 4000000 in
set_option maxRecDepth 20000 in
theorem lw_c17 {xs : Nat → Int} {vb : Bool} {s g : Nat → Nat → Int} (hok : qo_ok s g) (rx : ∀ k, -2147483648 ≤ xs k ∧ xs k ≤ 2147483647) : qr_W (qe 6 xs vb) 100 qx_e0 lw_Q0 (883, [(3, .int (qz 0)), (2, .ref 86), (1, .ref 16), (0, .ref 0)], [], qw (qo_s s) (qo_r g) qo_k 82, 109, 19340) := by
  refine qr_aload_n 884 (qf_11 (by decide) rfl) rfl rfl ?_
  refine qr_aload_n 885 (qf_11 (by decide) rfl) rfl rfl ?_
  refine qr_iload_n 886 (qf_11 (by decide) rfl) rfl rfl ?_
  refine qr_iconst 887 (qf_11 (by decide) rfl) rfl ?_
  refine qr_iadd 888 (qf_11 (by decide) rfl) rfl ?_
  refine qy_v 1 rfl ?_
  refine qr_iaload 889 (qf_11 (by decide) rfl) rfl (by omega) (by decide) rfl ?_
  refine qy_v (xs 1) rfl ?_
  refine qr_aload_n 890 (qf_11 (by decide) rfl) rfl rfl ?_
  refine qr_iload_n 891 (qf_11 (by decide) rfl) rfl rfl ?_
  refine qr_iconst 892 (qf_11 (by decide) rfl) rfl ?_
  refine qr_iadd 893 (qf_11 (by decide) rfl) rfl ?_
  refine qy_v 2 rfl ?_
  refine qr_iaload 894 (qf_11 (by decide) rfl) rfl (by omega) (by decide) rfl ?_
  refine qy_v (xs 2) rfl ?_
  refine qr_i2l 895 (qf_11 (by decide) rfl) (rx _) rfl ?_
  refine qr_bipush 897 (qf_11 (by decide) rfl) (by decide) rfl ?_
  refine qr_lshl 898 (qf_11 (by decide) rfl) rfl ?_
  refine qr_aload_n 899 (qf_11 (by decide) rfl) rfl rfl ?_
  refine qr_iload_n 900 (qf_12 (by decide) rfl) rfl rfl ?_
  refine qr_iconst 901 (qf_12 (by decide) rfl) rfl ?_
  refine qr_iadd 902 (qf_12 (by decide) rfl) rfl ?_
  refine qy_v 3 rfl ?_
  refine qr_iaload 903 (qf_12 (by decide) rfl) rfl (by omega) (by decide) rfl ?_
  refine qy_v (xs 3) rfl ?_
  refine qr_i2l 904 (qf_12 (by decide) rfl) (rx _) rfl ?_
  refine qr_ldc2 4294967295 907 (qf_12 (by decide) rfl) (by decide) rfl ?_
  refine qr_land 908 (qf_12 (by decide) rfl) rfl ?_
  refine qr_lor 909 (qf_12 (by decide) rfl) rfl ?_
  refine qr_aload_n 910 (qf_12 (by decide) rfl) rfl rfl ?_
  refine qr_iload_n 911 (qf_12 (by decide) rfl) rfl rfl ?_
  refine qr_iconst 912 (qf_12 (by decide) rfl) rfl ?_
  refine qr_iadd 913 (qf_12 (by decide) rfl) rfl ?_
  refine qy_v 4 rfl ?_
  refine qr_iaload 914 (qf_12 (by decide) rfl) rfl (by omega) (by decide) rfl ?_
  refine qy_v (xs 4) rfl ?_
  refine qr_call 917 109 19340 (qf_12 (by decide) rfl) rfl (Nat.le_of_ble_eq_true rfl) (Nat.le_of_ble_eq_true rfl) rfl rfl (lw_twoI (sx_must (d := 96) hok (rx _) (ql_or_r _ _) (rx _))) ?_
  rintro _ _ ⟨y, hy, rfl, ⟨σ, α, κ, ρ, rfl⟩, hm⟩
  show qr_W (qe 6 xs vb) 100 qx_e0 lw_Q0 (917, [(3, .int (qz 0)), (2, .ref 86), (1, .ref 16), (0, .ref 0)], [.int (qz y)], qw σ α κ ρ, 109, 19340)
  refine qr_aload_n 918 (qf_12 (by decide) rfl) rfl rfl ?_
  refine qr_aload_n 919 (qf_12 (by decide) rfl) rfl rfl ?_
  refine qr_iload_n 920 (qf_12 (by decide) rfl) rfl rfl ?_
  refine qr_iconst 921 (qf_12 (by decide) rfl) rfl ?_
  refine qr_iadd 922 (qf_12 (by decide) rfl) rfl ?_
  refine qy_v 1 rfl ?_
  refine qr_iaload 923 (qf_12 (by decide) rfl) rfl (by omega) (by decide) rfl ?_
  refine qy_v (xs 1) rfl ?_
  refine qr_aload_n 924 (qf_12 (by decide) rfl) rfl rfl ?_
  refine qr_iload_n 925 (qf_12 (by decide) rfl) rfl rfl ?_
  refine qr_iconst 926 (qf_12 (by decide) rfl) rfl ?_
  refine qr_iadd 927 (qf_12 (by decide) rfl) rfl ?_
  refine qy_v 2 rfl ?_
  refine qr_iaload 928 (qf_12 (by decide) rfl) rfl (by omega) (by decide) rfl ?_
  refine qy_v (xs 2) rfl ?_
  refine qr_i2l 929 (qf_12 (by decide) rfl) (rx _) rfl ?_
  refine qr_bipush 931 (qf_12 (by decide) rfl) (by decide) rfl ?_
  refine qr_lshl 932 (qf_12 (by decide) rfl) rfl ?_
  refine qr_aload_n 933 (qf_12 (by decide) rfl) rfl rfl ?_
  refine qr_iload_n 934 (qf_12 (by decide) rfl) rfl rfl ?_
  refine qr_iconst 935 (qf_12 (by decide) rfl) rfl ?_
  refine qr_iadd 936 (qf_12 (by decide) rfl) rfl ?_
  refine qy_v 3 rfl ?_
  refine qr_iaload 937 (qf_12 (by decide) rfl) rfl (by omega) (by decide) rfl ?_
  refine qy_v (xs 3) rfl ?_
  refine qr_i2l 938 (qf_12 (by decide) rfl) (rx _) rfl ?_
  refine qr_ldc2 4294967295 941 (qf_12 (by decide) rfl) (by decide) rfl ?_
  refine qr_land 942 (qf_12 (by decide) rfl) rfl ?_
  refine qr_lor 943 (qf_12 (by decide) rfl) rfl ?_
  refine qr_aload_n 944 (qf_12 (by decide) rfl) rfl rfl ?_
  refine qr_iload_n 945 (qf_12 (by decide) rfl) rfl rfl ?_
  refine qr_iconst 946 (qf_12 (by decide) rfl) rfl ?_
  refine qr_iadd 947 (qf_12 (by decide) rfl) rfl ?_
  refine qy_v 4 rfl ?_
  refine qr_iaload 948 (qf_12 (by decide) rfl) rfl (by omega) (by decide) rfl ?_
  refine qy_v (xs 4) rfl ?_
  refine qr_call 951 109 19340 (qf_12 (by decide) rfl) rfl (Nat.le_of_ble_eq_true rfl) (Nat.le_of_ble_eq_true rfl) rfl rfl hm ?_
  rintro _ w2 rfl
  show qr_W (qe 6 xs vb) 100 qx_e0 lw_Q0 (951, [(3, .int (qz 0)), (2, .ref 86), (1, .ref 16), (0, .ref 0)], [.int (qz y), .int (qz y)], w2, 109, 19340)
  refine qr_icmp_eq 2040 954 (qf_12 (by decide) rfl) rfl rfl hy hy (fun _ => ?_) (fun h => absurd rfl h)
  exact lw_end
set_option maxHeartbeats 4000000 in
set_option maxRecDepth 20000 in
theorem lw_c18 {xs : Nat → Int} {vb : Bool} {s g : Nat → Nat → Int} (hok : qo_ok s g) (rx : ∀ k, -2147483648 ≤ xs k ∧ xs k ≤ 2147483647) : qr_W (qe 6 xs vb) 100 qx_e0 lw_Q0 (956, [(3, .int (qz 0)), (2, .ref 86), (1, .ref 16), (0, .ref 0)], [], qw (qo_s s) (qo_r g) qo_k 82, 109, 19340) := by
  refine qr_aload_n 957 (qf_12 (by decide) rfl) rfl rfl ?_
  refine qr_aload_n 958 (qf_12 (by decide) rfl) rfl rfl ?_
  refine qr_iload_n 959 (qf_12 (by decide) rfl) rfl rfl ?_
  refine qr_iconst 960 (qf_12 (by decide) rfl) rfl ?_
  refine qr_iadd 961 (qf_13 (by decide) rfl) rfl ?_
  refine qy_v 1 rfl ?_
  refine qr_iaload 962 (qf_13 (by decide) rfl) rfl (by omega) (by decide) rfl ?_
  refine qy_v (xs 1) rfl ?_
  refine qr_i2l 963 (qf_13 (by decide) rfl) (rx _) rfl ?_
  refine qr_bipush 965 (qf_13 (by decide) rfl) (by decide) rfl ?_
  refine qr_lshl 966 (qf_13 (by decide) rfl) rfl ?_
  refine qr_aload_n 967 (qf_13 (by decide) rfl) rfl rfl ?_
  refine qr_iload_n 968 (qf_13 (by decide) rfl) rfl rfl ?_
  refine qr_iconst 969 (qf_13 (by decide) rfl) rfl ?_
  refine qr_iadd 970 (qf_13 (by decide) rfl) rfl ?_
  refine qy_v 2 rfl ?_
  refine qr_iaload 971 (qf_13 (by decide) rfl) rfl (by omega) (by decide) rfl ?_
  refine qy_v (xs 2) rfl ?_
  refine qr_i2l 972 (qf_13 (by decide) rfl) (rx _) rfl ?_
  refine qr_ldc2 4294967295 975 (qf_13 (by decide) rfl) (by decide) rfl ?_
  refine qr_land 976 (qf_13 (by decide) rfl) rfl ?_
  refine qr_lor 977 (qf_13 (by decide) rfl) rfl ?_
  refine qr_aload_n 978 (qf_13 (by decide) rfl) rfl rfl ?_
  refine qr_iload_n 979 (qf_13 (by decide) rfl) rfl rfl ?_
  refine qr_iconst 980 (qf_13 (by decide) rfl) rfl ?_
  refine qr_iadd 981 (qf_13 (by decide) rfl) rfl ?_
  refine qy_v 3 rfl ?_
  refine qr_iaload 982 (qf_13 (by decide) rfl) rfl (by omega) (by decide) rfl ?_
  refine qy_v (xs 3) rfl ?_
  refine qr_aload_n 983 (qf_13 (by decide) rfl) rfl rfl ?_
  refine qr_iload_n 984 (qf_13 (by decide) rfl) rfl rfl ?_
  refine qr_iconst 985 (qf_13 (by decide) rfl) rfl ?_
  refine qr_iadd 986 (qf_13 (by decide) rfl) rfl ?_
  refine qy_v 4 rfl ?_
  refine qr_iaload 987 (qf_13 (by decide) rfl) rfl (by omega) (by decide) rfl ?_
  refine qy_v (xs 4) rfl ?_
  refine qr_call 990 109 19340 (qf_13 (by decide) rfl) rfl (Nat.le_of_ble_eq_true rfl) (Nat.le_of_ble_eq_true rfl) rfl rfl (lw_twoI (sx_together (d := 96) hok (ql_or_r _ _) (rx _) (rx _))) ?_
  rintro _ _ ⟨y, hy, rfl, ⟨σ, α, κ, ρ, rfl⟩, hm⟩
  show qr_W (qe 6 xs vb) 100 qx_e0 lw_Q0 (990, [(3, .int (qz 0)), (2, .ref 86), (1, .ref 16), (0, .ref 0)], [.int (qz y)], qw σ α κ ρ, 109, 19340)
  refine qr_aload_n 991 (qf_13 (by decide) rfl) rfl rfl ?_
  refine qr_aload_n 992 (qf_13 (by decide) rfl) rfl rfl ?_
  refine qr_iload_n 993 (qf_13 (by decide) rfl) rfl rfl ?_
  refine qr_iconst 994 (qf_13 (by decide) rfl) rfl ?_
  refine qr_iadd 995 (qf_13 (by decide) rfl) rfl ?_
  refine qy_v 1 rfl ?_
  refine qr_iaload 996 (qf_13 (by decide) rfl) rfl (by omega) (by decide) rfl ?_
  refine qy_v (xs 1) rfl ?_
  refine qr_i2l 997 (qf_13 (by decide) rfl) (rx _) rfl ?_
  refine qr_bipush 999 (qf_13 (by decide) rfl) (by decide) rfl ?_
  refine qr_lshl 1000 (qf_13 (by decide) rfl) rfl ?_
  refine qr_aload_n 1001 (qf_13 (by decide) rfl) rfl rfl ?_
  refine qr_iload_n 1002 (qf_13 (by decide) rfl) rfl rfl ?_
  refine qr_iconst 1003 (qf_13 (by decide) rfl) rfl ?_
  refine qr_iadd 1004 (qf_13 (by decide) rfl) rfl ?_
  refine qy_v 2 rfl ?_
  refine qr_iaload 1005 (qf_13 (by decide) rfl) rfl (by omega) (by decide) rfl ?_
  refine qy_v (xs 2) rfl ?_
  refine qr_i2l 1006 (qf_13 (by decide) rfl) (rx _) rfl ?_
  refine qr_ldc2 4294967295 1009 (qf_13 (by decide) rfl) (by decide) rfl ?_
  refine qr_land 1010 (qf_13 (by decide) rfl) rfl ?_
  refine qr_lor 1011 (qf_13 (by decide) rfl) rfl ?_
  refine qr_aload_n 1012 (qf_13 (by decide) rfl) rfl rfl ?_
  refine qr_iload_n 1013 (qf_13 (by decide) rfl) rfl rfl ?_
  refine qr_iconst 1014 (qf_13 (by decide) rfl) rfl ?_
  refine qr_iadd 1015 (qf_13 (by decide) rfl) rfl ?_
  refine qy_v 3 rfl ?_
  refine qr_iaload 1016 (qf_13 (by decide) rfl) rfl (by omega) (by decide) rfl ?_
  refine qy_v (xs 3) rfl ?_
  refine qr_aload_n 1017 (qf_13 (by decide) rfl) rfl rfl ?_
  refine qr_iload_n 1018 (qf_13 (by decide) rfl) rfl rfl ?_
  refine qr_iconst 1019 (qf_14 (by decide) rfl) rfl ?_
  refine qr_iadd 1020 (qf_14 (by decide) rfl) rfl ?_
  refine qy_v 4 rfl ?_
  refine qr_iaload 1021 (qf_14 (by decide) rfl) rfl (by omega) (by decide) rfl ?_
  refine qy_v (xs 4) rfl ?_
  refine qr_call 1024 109 19340 (qf_14 (by decide) rfl) rfl (Nat.le_of_ble_eq_true rfl) (Nat.le_of_ble_eq_true rfl) rfl rfl hm ?_
  rintro _ w2 rfl
  show qr_W (qe 6 xs vb) 100 qx_e0 lw_Q0 (1024, [(3, .int (qz 0)), (2, .ref 86), (1, .ref 16), (0, .ref 0)], [.int (qz y), .int (qz y)], w2, 109, 19340)
  refine qr_icmp_eq 2040 1027 (qf_14 (by decide) rfl) rfl rfl hy hy (fun _ => ?_) (fun h => absurd rfl h)
  exact lw_end
set_option maxHeartbeats 4000000 in
set_option maxRecDepth 20000 in
theorem lw_c19 {xs : Nat → Int} {vb : Bool} {s g : Nat → Nat → Int} (hok : qo_ok s g) (rx : ∀ k, -2147483648 ≤ xs k ∧ xs k ≤ 2147483647) : qr_W (qe 6 xs vb) 100 qx_e0 lw_Q0 (1029, [(3, .int (qz 0)), (2, .ref 86), (1, .ref 16), (0, .ref 0)], [], qw (qo_s s) (qo_r g) qo_k 82, 109, 19340) := by
  refine qr_aload_n 1030 (qf_14 (by decide) rfl) rfl rfl ?_
  refine qr_aload_n 1031 (qf_14 (by decide) rfl) rfl rfl ?_
  refine qr_iload_n 1032 (qf_14 (by decide) rfl) rfl rfl ?_
  refine qr_iconst 1033 (qf_14 (by decide) rfl) rfl ?_
  refine qr_iadd 1034 (qf_14 (by decide) rfl) rfl ?_
  refine qy_v 1 rfl ?_
  refine qr_iaload 1035 (qf_14 (by decide) rfl) rfl (by omega) (by decide) rfl ?_
  refine qy_v (xs 1) rfl ?_
  refine qr_aload_n 1036 (qf_14 (by decide) rfl) rfl rfl ?_
  refine qr_iload_n 1037 (qf_14 (by decide) rfl) rfl rfl ?_
  refine qr_iconst 1038 (qf_14 (by decide) rfl) rfl ?_
  refine qr_iadd 1039 (qf_14 (by decide) rfl) rfl ?_
  refine qy_v 2 rfl ?_
  refine qr_iaload 1040 (qf_14 (by decide) rfl) rfl (by omega) (by decide) rfl ?_
  refine qy_v (xs 2) rfl ?_
  refine qr_call 1043 109 19340 (qf_14 (by decide) rfl) rfl (Nat.le_of_ble_eq_true rfl) (Nat.le_of_ble_eq_true rfl) rfl rfl (lw_twoI (sx_bars (d := 96) hok (rx _) (rx _))) ?_
  rintro _ _ ⟨y, hy, rfl, ⟨σ, α, κ, ρ, rfl⟩, hm⟩
  show qr_W (qe 6 xs vb) 100 qx_e0 lw_Q0 (1043, [(3, .int (qz 0)), (2, .ref 86), (1, .ref 16), (0, .ref 0)], [.int (qz y)], qw σ α κ ρ, 109, 19340)
  refine qr_aload_n 1044 (qf_14 (by decide) rfl) rfl rfl ?_
  refine qr_aload_n 1045 (qf_14 (by decide) rfl) rfl rfl ?_
  refine qr_iload_n 1046 (qf_14 (by decide) rfl) rfl rfl ?_
  refine qr_iconst 1047 (qf_14 (by decide) rfl) rfl ?_
  refine qr_iadd 1048 (qf_14 (by decide) rfl) rfl ?_
  refine qy_v 1 rfl ?_
  refine qr_iaload 1049 (qf_14 (by decide) rfl) rfl (by omega) (by decide) rfl ?_
  refine qy_v (xs 1) rfl ?_
  refine qr_aload_n 1050 (qf_14 (by decide) rfl) rfl rfl ?_
  refine qr_iload_n 1051 (qf_14 (by decide) rfl) rfl rfl ?_
  refine qr_iconst 1052 (qf_14 (by decide) rfl) rfl ?_
  refine qr_iadd 1053 (qf_14 (by decide) rfl) rfl ?_
  refine qy_v 2 rfl ?_
  refine qr_iaload 1054 (qf_14 (by decide) rfl) rfl (by omega) (by decide) rfl ?_
  refine qy_v (xs 2) rfl ?_
  refine qr_call 1057 109 19340 (qf_14 (by decide) rfl) rfl (Nat.le_of_ble_eq_true rfl) (Nat.le_of_ble_eq_true rfl) rfl rfl hm ?_
  rintro _ w2 rfl
  show qr_W (qe 6 xs vb) 100 qx_e0 lw_Q0 (1057, [(3, .int (qz 0)), (2, .ref 86), (1, .ref 16), (0, .ref 0)], [.int (qz y), .int (qz y)], w2, 109, 19340)
  refine qr_icmp_eq 2040 1060 (qf_14 (by decide) rfl) rfl rfl hy hy (fun _ => ?_) (fun h => absurd rfl h)
  exact lw_end
set_option maxHeartbeats 4000000 in
set_option maxRecDepth 20000 in
theorem lw_c20 {xs : Nat → Int} {vb : Bool} {s g : Nat → Nat → Int} (hok : qo_ok s g) (rx : ∀ k, -2147483648 ≤ xs k ∧ xs k ≤ 2147483647) : qr_W (qe 6 xs vb) 100 qx_e0 lw_Q0 (1062, [(3, .int (qz 0)), (2, .ref 86), (1, .ref 16), (0, .ref 0)], [], qw (qo_s s) (qo_r g) qo_k 82, 109, 19340) := by
  refine qr_aload_n 1063 (qf_14 (by decide) rfl) rfl rfl ?_
  refine qr_aload_n 1064 (qf_14 (by decide) rfl) rfl rfl ?_
  refine qr_iload_n 1065 (qf_14 (by decide) rfl) rfl rfl ?_
  refine qr_iconst 1066 (qf_14 (by decide) rfl) rfl ?_
  refine qr_iadd 1067 (qf_14 (by decide) rfl) rfl ?_
  refine qy_v 1 rfl ?_
  refine qr_iaload 1068 (qf_14 (by decide) rfl) rfl (by omega) (by decide) rfl ?_
  refine qy_v (xs 1) rfl ?_
  refine qr_i2l 1069 (qf_14 (by decide) rfl) (rx _) rfl ?_
  refine qr_bipush 1071 (qf_14 (by decide) rfl) (by decide) rfl ?_
  refine qr_lshl 1072 (qf_14 (by decide) rfl) rfl ?_
  refine qr_aload_n 1073 (qf_14 (by decide) rfl) rfl rfl ?_
  refine qr_iload_n 1074 (qf_14 (by decide) rfl) rfl rfl ?_
  refine qr_iconst 1075 (qf_14 (by decide) rfl) rfl ?_
  refine qr_iadd 1076 (qf_14 (by decide) rfl) rfl ?_
  refine qy_v 2 rfl ?_
  refine qr_iaload 1077 (qf_14 (by decide) rfl) rfl (by omega) (by decide) rfl ?_
  refine qy_v (xs 2) rfl ?_
  refine qr_i2l 1078 (qf_14 (by decide) rfl) (rx _) rfl ?_
  refine qr_ldc2 4294967295 1081 (qf_14 (by decide) rfl) (by decide) rfl ?_
  refine qr_land 1082 (qf_15 (by decide) rfl) rfl ?_
  refine qr_lor 1083 (qf_15 (by decide) rfl) rfl ?_
  refine qr_aload_n 1084 (qf_15 (by decide) rfl) rfl rfl ?_
  refine qr_iload_n 1085 (qf_15 (by decide) rfl) rfl rfl ?_
  refine qr_iconst 1086 (qf_15 (by decide) rfl) rfl ?_
  refine qr_iadd 1087 (qf_15 (by decide) rfl) rfl ?_
  refine qy_v 3 rfl ?_
  refine qr_iaload 1088 (qf_15 (by decide) rfl) rfl (by omega) (by decide) rfl ?_
  refine qy_v (xs 3) rfl ?_
  refine qr_i2l 1089 (qf_15 (by decide) rfl) (rx _) rfl ?_
  refine qr_bipush 1091 (qf_15 (by decide) rfl) (by decide) rfl ?_
  refine qr_lshl 1092 (qf_15 (by decide) rfl) rfl ?_
  refine qr_aload_n 1093 (qf_15 (by decide) rfl) rfl rfl ?_
  refine qr_iload_n 1094 (qf_15 (by decide) rfl) rfl rfl ?_
  refine qr_iconst 1095 (qf_15 (by decide) rfl) rfl ?_
  refine qr_iadd 1096 (qf_15 (by decide) rfl) rfl ?_
  refine qy_v 4 rfl ?_
  refine qr_iaload 1097 (qf_15 (by decide) rfl) rfl (by omega) (by decide) rfl ?_
  refine qy_v (xs 4) rfl ?_
  refine qr_i2l 1098 (qf_15 (by decide) rfl) (rx _) rfl ?_
  refine qr_ldc2 4294967295 1101 (qf_15 (by decide) rfl) (by decide) rfl ?_
  refine qr_land 1102 (qf_15 (by decide) rfl) rfl ?_
  refine qr_lor 1103 (qf_15 (by decide) rfl) rfl ?_
  refine qr_aload_n 1104 (qf_15 (by decide) rfl) rfl rfl ?_
  refine qr_iload_n 1105 (qf_15 (by decide) rfl) rfl rfl ?_
  refine qr_iconst 1106 (qf_15 (by decide) rfl) rfl ?_
  refine qr_iadd 1107 (qf_15 (by decide) rfl) rfl ?_
  refine qy_v 5 rfl ?_
  refine qr_iaload 1108 (qf_15 (by decide) rfl) rfl (by omega) (by decide) rfl ?_
  refine qy_v (xs 5) rfl ?_
  refine qr_call 1111 109 19340 (qf_15 (by decide) rfl) rfl (Nat.le_of_ble_eq_true rfl) (Nat.le_of_ble_eq_true rfl) rfl rfl (lw_twoL (sx_most (d := 96) hok (ql_or_r _ _) (ql_or_r _ _) (rx _))) ?_
  rintro _ _ ⟨y, hy, rfl, ⟨σ, α, κ, ρ, rfl⟩, hm⟩
  show qr_W (qe 6 xs vb) 100 qx_e0 lw_Q0 (1111, [(3, .int (qz 0)), (2, .ref 86), (1, .ref 16), (0, .ref 0)], [.long (ql y)], qw σ α κ ρ, 109, 19340)
  refine qr_aload_n 1112 (qf_15 (by decide) rfl) rfl rfl ?_
  refine qr_aload_n 1113 (qf_15 (by decide) rfl) rfl rfl ?_
  refine qr_iload_n 1114 (qf_15 (by decide) rfl) rfl rfl ?_
  refine qr_iconst 1115 (qf_15 (by decide) rfl) rfl ?_
  refine qr_iadd 1116 (qf_15 (by decide) rfl) rfl ?_
  refine qy_v 1 rfl ?_
  refine qr_iaload 1117 (qf_15 (by decide) rfl) rfl (by omega) (by decide) rfl ?_
  refine qy_v (xs 1) rfl ?_
  refine qr_i2l 1118 (qf_15 (by decide) rfl) (rx _) rfl ?_
  refine qr_bipush 1120 (qf_15 (by decide) rfl) (by decide) rfl ?_
  refine qr_lshl 1121 (qf_15 (by decide) rfl) rfl ?_
  refine qr_aload_n 1122 (qf_15 (by decide) rfl) rfl rfl ?_
  refine qr_iload_n 1123 (qf_15 (by decide) rfl) rfl rfl ?_
  refine qr_iconst 1124 (qf_15 (by decide) rfl) rfl ?_
  refine qr_iadd 1125 (qf_15 (by decide) rfl) rfl ?_
  refine qy_v 2 rfl ?_
  refine qr_iaload 1126 (qf_15 (by decide) rfl) rfl (by omega) (by decide) rfl ?_
  refine qy_v (xs 2) rfl ?_
  refine qr_i2l 1127 (qf_15 (by decide) rfl) (rx _) rfl ?_
  refine qr_ldc2 4294967295 1130 (qf_15 (by decide) rfl) (by decide) rfl ?_
  refine qr_land 1131 (qf_15 (by decide) rfl) rfl ?_
  refine qr_lor 1132 (qf_15 (by decide) rfl) rfl ?_
  refine qr_aload_n 1133 (qf_15 (by decide) rfl) rfl rfl ?_
  refine qr_iload_n 1134 (qf_15 (by decide) rfl) rfl rfl ?_
  refine qr_iconst 1135 (qf_15 (by decide) rfl) rfl ?_
  refine qr_iadd 1136 (qf_15 (by decide) rfl) rfl ?_
  refine qy_v 3 rfl ?_
  refine qr_iaload 1137 (qf_15 (by decide) rfl) rfl (by omega) (by decide) rfl ?_
  refine qy_v (xs 3) rfl ?_
  refine qr_i2l 1138 (qf_15 (by decide) rfl) (rx _) rfl ?_
  refine qr_bipush 1140 (qf_15 (by decide) rfl) (by decide) rfl ?_
  refine qr_lshl 1141 (qf_16 (by decide) rfl) rfl ?_
  refine qr_aload_n 1142 (qf_16 (by decide) rfl) rfl rfl ?_
  refine qr_iload_n 1143 (qf_16 (by decide) rfl) rfl rfl ?_
  refine qr_iconst 1144 (qf_16 (by decide) rfl) rfl ?_
  refine qr_iadd 1145 (qf_16 (by decide) rfl) rfl ?_
  refine qy_v 4 rfl ?_
  refine qr_iaload 1146 (qf_16 (by decide) rfl) rfl (by omega) (by decide) rfl ?_
  refine qy_v (xs 4) rfl ?_
  refine qr_i2l 1147 (qf_16 (by decide) rfl) (rx _) rfl ?_
  refine qr_ldc2 4294967295 1150 (qf_16 (by decide) rfl) (by decide) rfl ?_
  refine qr_land 1151 (qf_16 (by decide) rfl) rfl ?_
  refine qr_lor 1152 (qf_16 (by decide) rfl) rfl ?_
  refine qr_aload_n 1153 (qf_16 (by decide) rfl) rfl rfl ?_
  refine qr_iload_n 1154 (qf_16 (by decide) rfl) rfl rfl ?_
  refine qr_iconst 1155 (qf_16 (by decide) rfl) rfl ?_
  refine qr_iadd 1156 (qf_16 (by decide) rfl) rfl ?_
  refine qy_v 5 rfl ?_
  refine qr_iaload 1157 (qf_16 (by decide) rfl) rfl (by omega) (by decide) rfl ?_
  refine qy_v (xs 5) rfl ?_
  refine qr_call 1160 109 19340 (qf_16 (by decide) rfl) rfl (Nat.le_of_ble_eq_true rfl) (Nat.le_of_ble_eq_true rfl) rfl rfl hm ?_
  rintro _ w2 rfl
  show qr_W (qe 6 xs vb) 100 qx_e0 lw_Q0 (1160, [(3, .int (qz 0)), (2, .ref 86), (1, .ref 16), (0, .ref 0)], [.long (ql y), .long (ql y)], w2, 109, 19340)
  refine qr_lc_eq 2040 1164 (qf_16 (by decide) rfl) (qf_16 (by decide) rfl) rfl rfl hy hy (fun _ => ?_) (fun h => absurd rfl h)
  exact lw_end
set_option maxHeartbeats 4000000 in
set_option maxRecDepth 20000 in
theorem lw_c21 {xs : Nat → Int} {vb : Bool} {s g : Nat → Nat → Int} (hok : qo_ok s g) (rx : ∀ k, -2147483648 ≤ xs k ∧ xs k ≤ 2147483647) : qr_W (qe 6 xs vb) 100 qx_e0 lw_Q0 (1166, [(3, .int (qz 0)), (2, .ref 86), (1, .ref 16), (0, .ref 0)], [], qw (qo_s s) (qo_r g) qo_k 82, 109, 19340) := by
  refine qr_aload_n 1167 (qf_16 (by decide) rfl) rfl rfl ?_
  refine qr_aload_n 1168 (qf_16 (by decide) rfl) rfl rfl ?_
  refine qr_iload_n 1169 (qf_16 (by decide) rfl) rfl rfl ?_
  refine qr_iconst 1170 (qf_16 (by decide) rfl) rfl ?_
  refine qr_iadd 1171 (qf_16 (by decide) rfl) rfl ?_
  refine qy_v 1 rfl ?_
  refine qr_iaload 1172 (qf_16 (by decide) rfl) rfl (by omega) (by decide) rfl ?_
  refine qy_v (xs 1) rfl ?_
  refine qr_i2l 1173 (qf_16 (by decide) rfl) (rx _) rfl ?_
  refine qr_bipush 1175 (qf_16 (by decide) rfl) (by decide) rfl ?_
  refine qr_lshl 1176 (qf_16 (by decide) rfl) rfl ?_
  refine qr_aload_n 1177 (qf_16 (by decide) rfl) rfl rfl ?_
  refine qr_iload_n 1178 (qf_16 (by decide) rfl) rfl rfl ?_
  refine qr_iconst 1179 (qf_16 (by decide) rfl) rfl ?_
  refine qr_iadd 1180 (qf_16 (by decide) rfl) rfl ?_
  refine qy_v 2 rfl ?_
  refine qr_iaload 1181 (qf_16 (by decide) rfl) rfl (by omega) (by decide) rfl ?_
  refine qy_v (xs 2) rfl ?_
  refine qr_i2l 1182 (qf_16 (by decide) rfl) (rx _) rfl ?_
  refine qr_ldc2 4294967295 1185 (qf_16 (by decide) rfl) (by decide) rfl ?_
  refine qr_land 1186 (qf_16 (by decide) rfl) rfl ?_
  refine qr_lor 1187 (qf_16 (by decide) rfl) rfl ?_
  refine qr_aload_n 1188 (qf_16 (by decide) rfl) rfl rfl ?_
  refine qr_iload_n 1189 (qf_16 (by decide) rfl) rfl rfl ?_
  refine qr_iconst 1190 (qf_16 (by decide) rfl) rfl ?_
  refine qr_iadd 1191 (qf_16 (by decide) rfl) rfl ?_
  refine qy_v 3 rfl ?_
  refine qr_iaload 1192 (qf_16 (by decide) rfl) rfl (by omega) (by decide) rfl ?_
  refine qy_v (xs 3) rfl ?_
  refine qr_aload_n 1193 (qf_16 (by decide) rfl) rfl rfl ?_
  refine qr_iload_n 1194 (qf_16 (by decide) rfl) rfl rfl ?_
  refine qr_iconst 1195 (qf_16 (by decide) rfl) rfl ?_
  refine qr_iadd 1196 (qf_16 (by decide) rfl) rfl ?_
  refine qy_v 4 rfl ?_
  refine qr_iaload 1197 (qf_16 (by decide) rfl) rfl (by omega) (by decide) rfl ?_
  refine qy_v (xs 4) rfl ?_
  refine qr_call 1200 109 19340 (qf_16 (by decide) rfl) rfl (Nat.le_of_ble_eq_true rfl) (Nat.le_of_ble_eq_true rfl) rfl rfl (lw_twoL (sx_rooms (d := 96) hok (ql_or_r _ _) (rx _) (rx _))) ?_
  rintro _ _ ⟨y, hy, rfl, ⟨σ, α, κ, ρ, rfl⟩, hm⟩
  show qr_W (qe 6 xs vb) 100 qx_e0 lw_Q0 (1200, [(3, .int (qz 0)), (2, .ref 86), (1, .ref 16), (0, .ref 0)], [.long (ql y)], qw σ α κ ρ, 109, 19340)
  refine qr_aload_n 1201 (qf_16 (by decide) rfl) rfl rfl ?_
  refine qr_aload_n 1202 (qf_17 (by decide) rfl) rfl rfl ?_
  refine qr_iload_n 1203 (qf_17 (by decide) rfl) rfl rfl ?_
  refine qr_iconst 1204 (qf_17 (by decide) rfl) rfl ?_
  refine qr_iadd 1205 (qf_17 (by decide) rfl) rfl ?_
  refine qy_v 1 rfl ?_
  refine qr_iaload 1206 (qf_17 (by decide) rfl) rfl (by omega) (by decide) rfl ?_
  refine qy_v (xs 1) rfl ?_
  refine qr_i2l 1207 (qf_17 (by decide) rfl) (rx _) rfl ?_
  refine qr_bipush 1209 (qf_17 (by decide) rfl) (by decide) rfl ?_
  refine qr_lshl 1210 (qf_17 (by decide) rfl) rfl ?_
  refine qr_aload_n 1211 (qf_17 (by decide) rfl) rfl rfl ?_
  refine qr_iload_n 1212 (qf_17 (by decide) rfl) rfl rfl ?_
  refine qr_iconst 1213 (qf_17 (by decide) rfl) rfl ?_
  refine qr_iadd 1214 (qf_17 (by decide) rfl) rfl ?_
  refine qy_v 2 rfl ?_
  refine qr_iaload 1215 (qf_17 (by decide) rfl) rfl (by omega) (by decide) rfl ?_
  refine qy_v (xs 2) rfl ?_
  refine qr_i2l 1216 (qf_17 (by decide) rfl) (rx _) rfl ?_
  refine qr_ldc2 4294967295 1219 (qf_17 (by decide) rfl) (by decide) rfl ?_
  refine qr_land 1220 (qf_17 (by decide) rfl) rfl ?_
  refine qr_lor 1221 (qf_17 (by decide) rfl) rfl ?_
  refine qr_aload_n 1222 (qf_17 (by decide) rfl) rfl rfl ?_
  refine qr_iload_n 1223 (qf_17 (by decide) rfl) rfl rfl ?_
  refine qr_iconst 1224 (qf_17 (by decide) rfl) rfl ?_
  refine qr_iadd 1225 (qf_17 (by decide) rfl) rfl ?_
  refine qy_v 3 rfl ?_
  refine qr_iaload 1226 (qf_17 (by decide) rfl) rfl (by omega) (by decide) rfl ?_
  refine qy_v (xs 3) rfl ?_
  refine qr_aload_n 1227 (qf_17 (by decide) rfl) rfl rfl ?_
  refine qr_iload_n 1228 (qf_17 (by decide) rfl) rfl rfl ?_
  refine qr_iconst 1229 (qf_17 (by decide) rfl) rfl ?_
  refine qr_iadd 1230 (qf_17 (by decide) rfl) rfl ?_
  refine qy_v 4 rfl ?_
  refine qr_iaload 1231 (qf_17 (by decide) rfl) rfl (by omega) (by decide) rfl ?_
  refine qy_v (xs 4) rfl ?_
  refine qr_call 1234 109 19340 (qf_17 (by decide) rfl) rfl (Nat.le_of_ble_eq_true rfl) (Nat.le_of_ble_eq_true rfl) rfl rfl hm ?_
  rintro _ w2 rfl
  show qr_W (qe 6 xs vb) 100 qx_e0 lw_Q0 (1234, [(3, .int (qz 0)), (2, .ref 86), (1, .ref 16), (0, .ref 0)], [.long (ql y), .long (ql y)], w2, 109, 19340)
  refine qr_lc_eq 2040 1238 (qf_17 (by decide) rfl) (qf_17 (by decide) rfl) rfl rfl hy hy (fun _ => ?_) (fun h => absurd rfl h)
  exact lw_end
set_option maxHeartbeats 4000000 in
set_option maxRecDepth 20000 in
theorem lw_c22 {xs : Nat → Int} {vb : Bool} {s g : Nat → Nat → Int} (hok : qo_ok s g) (rx : ∀ k, -2147483648 ≤ xs k ∧ xs k ≤ 2147483647) : qr_W (qe 6 xs vb) 100 qx_e0 lw_Q0 (1240, [(3, .int (qz 0)), (2, .ref 86), (1, .ref 16), (0, .ref 0)], [], qw (qo_s s) (qo_r g) qo_k 82, 109, 19340) := by
  refine qr_aload_n 1241 (qf_17 (by decide) rfl) rfl rfl ?_
  refine qr_aload_n 1242 (qf_17 (by decide) rfl) rfl rfl ?_
  refine qr_iload_n 1243 (qf_17 (by decide) rfl) rfl rfl ?_
  refine qr_iconst 1244 (qf_17 (by decide) rfl) rfl ?_
  refine qr_iadd 1245 (qf_17 (by decide) rfl) rfl ?_
  refine qy_v 1 rfl ?_
  refine qr_iaload 1246 (qf_17 (by decide) rfl) rfl (by omega) (by decide) rfl ?_
  refine qy_v (xs 1) rfl ?_
  refine qr_i2l 1247 (qf_17 (by decide) rfl) (rx _) rfl ?_
  refine qr_bipush 1249 (qf_17 (by decide) rfl) (by decide) rfl ?_
  refine qr_lshl 1250 (qf_17 (by decide) rfl) rfl ?_
  refine qr_aload_n 1251 (qf_17 (by decide) rfl) rfl rfl ?_
  refine qr_iload_n 1252 (qf_17 (by decide) rfl) rfl rfl ?_
  refine qr_iconst 1253 (qf_17 (by decide) rfl) rfl ?_
  refine qr_iadd 1254 (qf_17 (by decide) rfl) rfl ?_
  refine qy_v 2 rfl ?_
  refine qr_iaload 1255 (qf_17 (by decide) rfl) rfl (by omega) (by decide) rfl ?_
  refine qy_v (xs 2) rfl ?_
  refine qr_i2l 1256 (qf_17 (by decide) rfl) (rx _) rfl ?_
  refine qr_ldc2 4294967295 1259 (qf_17 (by decide) rfl) (by decide) rfl ?_
  refine qr_land 1260 (qf_17 (by decide) rfl) rfl ?_
  refine qr_lor 1261 (qf_17 (by decide) rfl) rfl ?_
  refine qr_aload_n 1262 (qf_18 (by decide) rfl) rfl rfl ?_
  refine qr_iload_n 1263 (qf_18 (by decide) rfl) rfl rfl ?_
  refine qr_iconst 1264 (qf_18 (by decide) rfl) rfl ?_
  refine qr_iadd 1265 (qf_18 (by decide) rfl) rfl ?_
  refine qy_v 3 rfl ?_
  refine qr_iaload 1266 (qf_18 (by decide) rfl) rfl (by omega) (by decide) rfl ?_
  refine qy_v (xs 3) rfl ?_
  refine qr_aload_n 1267 (qf_18 (by decide) rfl) rfl rfl ?_
  refine qr_iload_n 1268 (qf_18 (by decide) rfl) rfl rfl ?_
  refine qr_iconst 1269 (qf_18 (by decide) rfl) rfl ?_
  refine qr_iadd 1270 (qf_18 (by decide) rfl) rfl ?_
  refine qy_v 4 rfl ?_
  refine qr_iaload 1271 (qf_18 (by decide) rfl) rfl (by omega) (by decide) rfl ?_
  refine qy_v (xs 4) rfl ?_
  refine qr_call 1274 109 19340 (qf_18 (by decide) rfl) rfl (Nat.le_of_ble_eq_true rfl) (Nat.le_of_ble_eq_true rfl) rfl rfl (lw_twoL (sx_buy (d := 96) hok (ql_or_r _ _) (rx _) (rx _))) ?_
  rintro _ _ ⟨y, hy, rfl, ⟨σ, α, κ, ρ, rfl⟩, hm⟩
  show qr_W (qe 6 xs vb) 100 qx_e0 lw_Q0 (1274, [(3, .int (qz 0)), (2, .ref 86), (1, .ref 16), (0, .ref 0)], [.long (ql y)], qw σ α κ ρ, 109, 19340)
  refine qr_aload_n 1275 (qf_18 (by decide) rfl) rfl rfl ?_
  refine qr_aload_n 1276 (qf_18 (by decide) rfl) rfl rfl ?_
  refine qr_iload_n 1277 (qf_18 (by decide) rfl) rfl rfl ?_
  refine qr_iconst 1278 (qf_18 (by decide) rfl) rfl ?_
  refine qr_iadd 1279 (qf_18 (by decide) rfl) rfl ?_
  refine qy_v 1 rfl ?_
  refine qr_iaload 1280 (qf_18 (by decide) rfl) rfl (by omega) (by decide) rfl ?_
  refine qy_v (xs 1) rfl ?_
  refine qr_i2l 1281 (qf_18 (by decide) rfl) (rx _) rfl ?_
  refine qr_bipush 1283 (qf_18 (by decide) rfl) (by decide) rfl ?_
  refine qr_lshl 1284 (qf_18 (by decide) rfl) rfl ?_
  refine qr_aload_n 1285 (qf_18 (by decide) rfl) rfl rfl ?_
  refine qr_iload_n 1286 (qf_18 (by decide) rfl) rfl rfl ?_
  refine qr_iconst 1287 (qf_18 (by decide) rfl) rfl ?_
  refine qr_iadd 1288 (qf_18 (by decide) rfl) rfl ?_
  refine qy_v 2 rfl ?_
  refine qr_iaload 1289 (qf_18 (by decide) rfl) rfl (by omega) (by decide) rfl ?_
  refine qy_v (xs 2) rfl ?_
  refine qr_i2l 1290 (qf_18 (by decide) rfl) (rx _) rfl ?_
  refine qr_ldc2 4294967295 1293 (qf_18 (by decide) rfl) (by decide) rfl ?_
  refine qr_land 1294 (qf_18 (by decide) rfl) rfl ?_
  refine qr_lor 1295 (qf_18 (by decide) rfl) rfl ?_
  refine qr_aload_n 1296 (qf_18 (by decide) rfl) rfl rfl ?_
  refine qr_iload_n 1297 (qf_18 (by decide) rfl) rfl rfl ?_
  refine qr_iconst 1298 (qf_18 (by decide) rfl) rfl ?_
  refine qr_iadd 1299 (qf_18 (by decide) rfl) rfl ?_
  refine qy_v 3 rfl ?_
  refine qr_iaload 1300 (qf_18 (by decide) rfl) rfl (by omega) (by decide) rfl ?_
  refine qy_v (xs 3) rfl ?_
  refine qr_aload_n 1301 (qf_18 (by decide) rfl) rfl rfl ?_
  refine qr_iload_n 1302 (qf_18 (by decide) rfl) rfl rfl ?_
  refine qr_iconst 1303 (qf_18 (by decide) rfl) rfl ?_
  refine qr_iadd 1304 (qf_18 (by decide) rfl) rfl ?_
  refine qy_v 4 rfl ?_
  refine qr_iaload 1305 (qf_18 (by decide) rfl) rfl (by omega) (by decide) rfl ?_
  refine qy_v (xs 4) rfl ?_
  refine qr_call 1308 109 19340 (qf_18 (by decide) rfl) rfl (Nat.le_of_ble_eq_true rfl) (Nat.le_of_ble_eq_true rfl) rfl rfl hm ?_
  rintro _ w2 rfl
  show qr_W (qe 6 xs vb) 100 qx_e0 lw_Q0 (1308, [(3, .int (qz 0)), (2, .ref 86), (1, .ref 16), (0, .ref 0)], [.long (ql y), .long (ql y)], w2, 109, 19340)
  refine qr_lc_eq 2040 1312 (qf_18 (by decide) rfl) (qf_18 (by decide) rfl) rfl rfl hy hy (fun _ => ?_) (fun h => absurd rfl h)
  exact lw_end
set_option maxHeartbeats 4000000 in
set_option maxRecDepth 20000 in
theorem lw_c23 {xs : Nat → Int} {vb : Bool} {s g : Nat → Nat → Int} (hok : qo_ok s g) (rx : ∀ k, -2147483648 ≤ xs k ∧ xs k ≤ 2147483647) : qr_W (qe 6 xs vb) 100 qx_e0 lw_Q0 (1314, [(3, .int (qz 0)), (2, .ref 86), (1, .ref 16), (0, .ref 0)], [], qw (qo_s s) (qo_r g) qo_k 82, 109, 19340) := by
  refine qr_aload_n 1315 (qf_18 (by decide) rfl) rfl rfl ?_
  refine qr_aload_n 1316 (qf_18 (by decide) rfl) rfl rfl ?_
  refine qr_iload_n 1317 (qf_18 (by decide) rfl) rfl rfl ?_
  refine qr_iconst 1318 (qf_18 (by decide) rfl) rfl ?_
  refine qr_iadd 1319 (qf_18 (by decide) rfl) rfl ?_
  refine qy_v 1 rfl ?_
  refine qr_iaload 1320 (qf_18 (by decide) rfl) rfl (by omega) (by decide) rfl ?_
  refine qy_v (xs 1) rfl ?_
  refine qr_aload_n 1321 (qf_19 (by decide) rfl) rfl rfl ?_
  refine qr_iload_n 1322 (qf_19 (by decide) rfl) rfl rfl ?_
  refine qr_iconst 1323 (qf_19 (by decide) rfl) rfl ?_
  refine qr_iadd 1324 (qf_19 (by decide) rfl) rfl ?_
  refine qy_v 2 rfl ?_
  refine qr_iaload 1325 (qf_19 (by decide) rfl) rfl (by omega) (by decide) rfl ?_
  refine qy_v (xs 2) rfl ?_
  refine qr_call 1328 109 19340 (qf_19 (by decide) rfl) rfl (Nat.le_of_ble_eq_true rfl) (Nat.le_of_ble_eq_true rfl) rfl rfl (lw_twoI (sx_road (d := 97) hok (rx _) (rx _))) ?_
  rintro _ _ ⟨y, hy, rfl, ⟨σ, α, κ, ρ, rfl⟩, hm⟩
  show qr_W (qe 6 xs vb) 100 qx_e0 lw_Q0 (1328, [(3, .int (qz 0)), (2, .ref 86), (1, .ref 16), (0, .ref 0)], [.int (qz y)], qw σ α κ ρ, 109, 19340)
  refine qr_aload_n 1329 (qf_19 (by decide) rfl) rfl rfl ?_
  refine qr_aload_n 1330 (qf_19 (by decide) rfl) rfl rfl ?_
  refine qr_iload_n 1331 (qf_19 (by decide) rfl) rfl rfl ?_
  refine qr_iconst 1332 (qf_19 (by decide) rfl) rfl ?_
  refine qr_iadd 1333 (qf_19 (by decide) rfl) rfl ?_
  refine qy_v 1 rfl ?_
  refine qr_iaload 1334 (qf_19 (by decide) rfl) rfl (by omega) (by decide) rfl ?_
  refine qy_v (xs 1) rfl ?_
  refine qr_aload_n 1335 (qf_19 (by decide) rfl) rfl rfl ?_
  refine qr_iload_n 1336 (qf_19 (by decide) rfl) rfl rfl ?_
  refine qr_iconst 1337 (qf_19 (by decide) rfl) rfl ?_
  refine qr_iadd 1338 (qf_19 (by decide) rfl) rfl ?_
  refine qy_v 2 rfl ?_
  refine qr_iaload 1339 (qf_19 (by decide) rfl) rfl (by omega) (by decide) rfl ?_
  refine qy_v (xs 2) rfl ?_
  refine qr_call 1342 109 19340 (qf_19 (by decide) rfl) rfl (Nat.le_of_ble_eq_true rfl) (Nat.le_of_ble_eq_true rfl) rfl rfl hm ?_
  rintro _ w2 rfl
  show qr_W (qe 6 xs vb) 100 qx_e0 lw_Q0 (1342, [(3, .int (qz 0)), (2, .ref 86), (1, .ref 16), (0, .ref 0)], [.int (qz y), .int (qz y)], w2, 109, 19340)
  refine qr_icmp_eq 2040 1345 (qf_19 (by decide) rfl) rfl rfl hy hy (fun _ => ?_) (fun h => absurd rfl h)
  exact lw_end
set_option maxHeartbeats 4000000 in
set_option maxRecDepth 20000 in
theorem lw_c24 {xs : Nat → Int} {vb : Bool} {s g : Nat → Nat → Int} (hok : qo_ok s g) (rx : ∀ k, -2147483648 ≤ xs k ∧ xs k ≤ 2147483647) : qr_W (qe 6 xs vb) 100 qx_e0 lw_Q0 (1347, [(3, .int (qz 0)), (2, .ref 86), (1, .ref 16), (0, .ref 0)], [], qw (qo_s s) (qo_r g) qo_k 82, 109, 19340) := by
  refine qr_aload_n 1348 (qf_19 (by decide) rfl) rfl rfl ?_
  refine qr_aload_n 1349 (qf_19 (by decide) rfl) rfl rfl ?_
  refine qr_iload_n 1350 (qf_19 (by decide) rfl) rfl rfl ?_
  refine qr_iconst 1351 (qf_19 (by decide) rfl) rfl ?_
  refine qr_iadd 1352 (qf_19 (by decide) rfl) rfl ?_
  refine qy_v 1 rfl ?_
  refine qr_iaload 1353 (qf_19 (by decide) rfl) rfl (by omega) (by decide) rfl ?_
  refine qy_v (xs 1) rfl ?_
  refine qr_i2l 1354 (qf_19 (by decide) rfl) (rx _) rfl ?_
  refine qr_bipush 1356 (qf_19 (by decide) rfl) (by decide) rfl ?_
  refine qr_lshl 1357 (qf_19 (by decide) rfl) rfl ?_
  refine qr_aload_n 1358 (qf_19 (by decide) rfl) rfl rfl ?_
  refine qr_iload_n 1359 (qf_19 (by decide) rfl) rfl rfl ?_
  refine qr_iconst 1360 (qf_19 (by decide) rfl) rfl ?_
  refine qr_iadd 1361 (qf_19 (by decide) rfl) rfl ?_
  refine qy_v 2 rfl ?_
  refine qr_iaload 1362 (qf_19 (by decide) rfl) rfl (by omega) (by decide) rfl ?_
  refine qy_v (xs 2) rfl ?_
  refine qr_i2l 1363 (qf_19 (by decide) rfl) (rx _) rfl ?_
  refine qr_ldc2 4294967295 1366 (qf_19 (by decide) rfl) (by decide) rfl ?_
  refine qr_land 1367 (qf_19 (by decide) rfl) rfl ?_
  refine qr_lor 1368 (qf_19 (by decide) rfl) rfl ?_
  refine qr_aload_n 1369 (qf_19 (by decide) rfl) rfl rfl ?_
  refine qr_iload_n 1370 (qf_19 (by decide) rfl) rfl rfl ?_
  refine qr_iconst 1371 (qf_19 (by decide) rfl) rfl ?_
  refine qr_iadd 1372 (qf_19 (by decide) rfl) rfl ?_
  refine qy_v 3 rfl ?_
  refine qr_iaload 1373 (qf_19 (by decide) rfl) rfl (by omega) (by decide) rfl ?_
  refine qy_v (xs 3) rfl ?_
  refine qr_aload_n 1374 (qf_19 (by decide) rfl) rfl rfl ?_
  refine qr_iload_n 1375 (qf_19 (by decide) rfl) rfl rfl ?_
  refine qr_iconst 1376 (qf_19 (by decide) rfl) rfl ?_
  refine qr_iadd 1377 (qf_19 (by decide) rfl) rfl ?_
  refine qy_v 4 rfl ?_
  refine qr_iaload 1378 (qf_19 (by decide) rfl) rfl (by omega) (by decide) rfl ?_
  refine qy_v (xs 4) rfl ?_
  refine qr_call 1381 109 19340 (qf_19 (by decide) rfl) rfl (Nat.le_of_ble_eq_true rfl) (Nat.le_of_ble_eq_true rfl) rfl rfl (lw_twoI (sx_leave (d := 97) hok (ql_or_r _ _) (rx _) (rx _))) ?_
  rintro _ _ ⟨y, hy, rfl, ⟨σ, α, κ, ρ, rfl⟩, hm⟩
  show qr_W (qe 6 xs vb) 100 qx_e0 lw_Q0 (1381, [(3, .int (qz 0)), (2, .ref 86), (1, .ref 16), (0, .ref 0)], [.int (qz y)], qw σ α κ ρ, 109, 19340)
  refine qr_aload_n 1382 (qf_20 (by decide) rfl) rfl rfl ?_
  refine qr_aload_n 1383 (qf_20 (by decide) rfl) rfl rfl ?_
  refine qr_iload_n 1384 (qf_20 (by decide) rfl) rfl rfl ?_
  refine qr_iconst 1385 (qf_20 (by decide) rfl) rfl ?_
  refine qr_iadd 1386 (qf_20 (by decide) rfl) rfl ?_
  refine qy_v 1 rfl ?_
  refine qr_iaload 1387 (qf_20 (by decide) rfl) rfl (by omega) (by decide) rfl ?_
  refine qy_v (xs 1) rfl ?_
  refine qr_i2l 1388 (qf_20 (by decide) rfl) (rx _) rfl ?_
  refine qr_bipush 1390 (qf_20 (by decide) rfl) (by decide) rfl ?_
  refine qr_lshl 1391 (qf_20 (by decide) rfl) rfl ?_
  refine qr_aload_n 1392 (qf_20 (by decide) rfl) rfl rfl ?_
  refine qr_iload_n 1393 (qf_20 (by decide) rfl) rfl rfl ?_
  refine qr_iconst 1394 (qf_20 (by decide) rfl) rfl ?_
  refine qr_iadd 1395 (qf_20 (by decide) rfl) rfl ?_
  refine qy_v 2 rfl ?_
  refine qr_iaload 1396 (qf_20 (by decide) rfl) rfl (by omega) (by decide) rfl ?_
  refine qy_v (xs 2) rfl ?_
  refine qr_i2l 1397 (qf_20 (by decide) rfl) (rx _) rfl ?_
  refine qr_ldc2 4294967295 1400 (qf_20 (by decide) rfl) (by decide) rfl ?_
  refine qr_land 1401 (qf_20 (by decide) rfl) rfl ?_
  refine qr_lor 1402 (qf_20 (by decide) rfl) rfl ?_
  refine qr_aload_n 1403 (qf_20 (by decide) rfl) rfl rfl ?_
  refine qr_iload_n 1404 (qf_20 (by decide) rfl) rfl rfl ?_
  refine qr_iconst 1405 (qf_20 (by decide) rfl) rfl ?_
  refine qr_iadd 1406 (qf_20 (by decide) rfl) rfl ?_
  refine qy_v 3 rfl ?_
  refine qr_iaload 1407 (qf_20 (by decide) rfl) rfl (by omega) (by decide) rfl ?_
  refine qy_v (xs 3) rfl ?_
  refine qr_aload_n 1408 (qf_20 (by decide) rfl) rfl rfl ?_
  refine qr_iload_n 1409 (qf_20 (by decide) rfl) rfl rfl ?_
  refine qr_iconst 1410 (qf_20 (by decide) rfl) rfl ?_
  refine qr_iadd 1411 (qf_20 (by decide) rfl) rfl ?_
  refine qy_v 4 rfl ?_
  refine qr_iaload 1412 (qf_20 (by decide) rfl) rfl (by omega) (by decide) rfl ?_
  refine qy_v (xs 4) rfl ?_
  refine qr_call 1415 109 19340 (qf_20 (by decide) rfl) rfl (Nat.le_of_ble_eq_true rfl) (Nat.le_of_ble_eq_true rfl) rfl rfl hm ?_
  rintro _ w2 rfl
  show qr_W (qe 6 xs vb) 100 qx_e0 lw_Q0 (1415, [(3, .int (qz 0)), (2, .ref 86), (1, .ref 16), (0, .ref 0)], [.int (qz y), .int (qz y)], w2, 109, 19340)
  refine qr_icmp_eq 2040 1418 (qf_20 (by decide) rfl) rfl rfl hy hy (fun _ => ?_) (fun h => absurd rfl h)
  exact lw_end
set_option maxHeartbeats 4000000 in
set_option maxRecDepth 20000 in
theorem lw_c25 {xs : Nat → Int} {vb : Bool} {s g : Nat → Nat → Int} (hok : qo_ok s g) (rx : ∀ k, -2147483648 ≤ xs k ∧ xs k ≤ 2147483647) : qr_W (qe 6 xs vb) 100 qx_e0 lw_Q0 (1420, [(3, .int (qz 0)), (2, .ref 86), (1, .ref 16), (0, .ref 0)], [], qw (qo_s s) (qo_r g) qo_k 82, 109, 19340) := by
  refine qr_aload_n 1421 (qf_20 (by decide) rfl) rfl rfl ?_
  refine qr_aload_n 1422 (qf_20 (by decide) rfl) rfl rfl ?_
  refine qr_iload_n 1423 (qf_20 (by decide) rfl) rfl rfl ?_
  refine qr_iconst 1424 (qf_20 (by decide) rfl) rfl ?_
  refine qr_iadd 1425 (qf_20 (by decide) rfl) rfl ?_
  refine qy_v 1 rfl ?_
  refine qr_iaload 1426 (qf_20 (by decide) rfl) rfl (by omega) (by decide) rfl ?_
  refine qy_v (xs 1) rfl ?_
  refine qr_aload_n 1427 (qf_20 (by decide) rfl) rfl rfl ?_
  refine qr_iload_n 1428 (qf_20 (by decide) rfl) rfl rfl ?_
  refine qr_iconst 1429 (qf_20 (by decide) rfl) rfl ?_
  refine qr_iadd 1430 (qf_20 (by decide) rfl) rfl ?_
  refine qy_v 2 rfl ?_
  refine qr_iaload 1431 (qf_20 (by decide) rfl) rfl (by omega) (by decide) rfl ?_
  refine qy_v (xs 2) rfl ?_
  refine qr_i2l 1432 (qf_20 (by decide) rfl) (rx _) rfl ?_
  refine qr_bipush 1434 (qf_20 (by decide) rfl) (by decide) rfl ?_
  refine qr_lshl 1435 (qf_20 (by decide) rfl) rfl ?_
  refine qr_aload_n 1436 (qf_20 (by decide) rfl) rfl rfl ?_
  refine qr_iload_n 1437 (qf_20 (by decide) rfl) rfl rfl ?_
  refine qr_iconst 1438 (qf_20 (by decide) rfl) rfl ?_
  refine qr_iadd 1439 (qf_20 (by decide) rfl) rfl ?_
  refine qy_v 3 rfl ?_
  refine qr_iaload 1440 (qf_21 (by decide) rfl) rfl (by omega) (by decide) rfl ?_
  refine qy_v (xs 3) rfl ?_
  refine qr_i2l 1441 (qf_21 (by decide) rfl) (rx _) rfl ?_
  refine qr_ldc2 4294967295 1444 (qf_21 (by decide) rfl) (by decide) rfl ?_
  refine qr_land 1445 (qf_21 (by decide) rfl) rfl ?_
  refine qr_lor 1446 (qf_21 (by decide) rfl) rfl ?_
  refine qr_aload_n 1447 (qf_21 (by decide) rfl) rfl rfl ?_
  refine qr_iload_n 1448 (qf_21 (by decide) rfl) rfl rfl ?_
  refine qr_iconst 1449 (qf_21 (by decide) rfl) rfl ?_
  refine qr_iadd 1450 (qf_21 (by decide) rfl) rfl ?_
  refine qy_v 4 rfl ?_
  refine qr_iaload 1451 (qf_21 (by decide) rfl) rfl (by omega) (by decide) rfl ?_
  refine qy_v (xs 4) rfl ?_
  refine qr_aload_n 1452 (qf_21 (by decide) rfl) rfl rfl ?_
  refine qr_iload_n 1453 (qf_21 (by decide) rfl) rfl rfl ?_
  refine qr_iconst 1454 (qf_21 (by decide) rfl) rfl ?_
  refine qr_iadd 1455 (qf_21 (by decide) rfl) rfl ?_
  refine qy_v 5 rfl ?_
  refine qr_iaload 1456 (qf_21 (by decide) rfl) rfl (by omega) (by decide) rfl ?_
  refine qy_v (xs 5) rfl ?_
  refine qr_call 1459 109 19340 (qf_21 (by decide) rfl) rfl (Nat.le_of_ble_eq_true rfl) (Nat.le_of_ble_eq_true rfl) rfl rfl (lw_twoI (sx_strike (d := 96) hok (rx _) (ql_or_r _ _) (rx _) (rx _))) ?_
  rintro _ _ ⟨y, hy, rfl, ⟨σ, α, κ, ρ, rfl⟩, hm⟩
  show qr_W (qe 6 xs vb) 100 qx_e0 lw_Q0 (1459, [(3, .int (qz 0)), (2, .ref 86), (1, .ref 16), (0, .ref 0)], [.int (qz y)], qw σ α κ ρ, 109, 19340)
  refine qr_aload_n 1460 (qf_21 (by decide) rfl) rfl rfl ?_
  refine qr_aload_n 1461 (qf_21 (by decide) rfl) rfl rfl ?_
  refine qr_iload_n 1462 (qf_21 (by decide) rfl) rfl rfl ?_
  refine qr_iconst 1463 (qf_21 (by decide) rfl) rfl ?_
  refine qr_iadd 1464 (qf_21 (by decide) rfl) rfl ?_
  refine qy_v 1 rfl ?_
  refine qr_iaload 1465 (qf_21 (by decide) rfl) rfl (by omega) (by decide) rfl ?_
  refine qy_v (xs 1) rfl ?_
  refine qr_aload_n 1466 (qf_21 (by decide) rfl) rfl rfl ?_
  refine qr_iload_n 1467 (qf_21 (by decide) rfl) rfl rfl ?_
  refine qr_iconst 1468 (qf_21 (by decide) rfl) rfl ?_
  refine qr_iadd 1469 (qf_21 (by decide) rfl) rfl ?_
  refine qy_v 2 rfl ?_
  refine qr_iaload 1470 (qf_21 (by decide) rfl) rfl (by omega) (by decide) rfl ?_
  refine qy_v (xs 2) rfl ?_
  refine qr_i2l 1471 (qf_21 (by decide) rfl) (rx _) rfl ?_
  refine qr_bipush 1473 (qf_21 (by decide) rfl) (by decide) rfl ?_
  refine qr_lshl 1474 (qf_21 (by decide) rfl) rfl ?_
  refine qr_aload_n 1475 (qf_21 (by decide) rfl) rfl rfl ?_
  refine qr_iload_n 1476 (qf_21 (by decide) rfl) rfl rfl ?_
  refine qr_iconst 1477 (qf_21 (by decide) rfl) rfl ?_
  refine qr_iadd 1478 (qf_21 (by decide) rfl) rfl ?_
  refine qy_v 3 rfl ?_
  refine qr_iaload 1479 (qf_21 (by decide) rfl) rfl (by omega) (by decide) rfl ?_
  refine qy_v (xs 3) rfl ?_
  refine qr_i2l 1480 (qf_21 (by decide) rfl) (rx _) rfl ?_
  refine qr_ldc2 4294967295 1483 (qf_21 (by decide) rfl) (by decide) rfl ?_
  refine qr_land 1484 (qf_21 (by decide) rfl) rfl ?_
  refine qr_lor 1485 (qf_21 (by decide) rfl) rfl ?_
  refine qr_aload_n 1486 (qf_21 (by decide) rfl) rfl rfl ?_
  refine qr_iload_n 1487 (qf_21 (by decide) rfl) rfl rfl ?_
  refine qr_iconst 1488 (qf_21 (by decide) rfl) rfl ?_
  refine qr_iadd 1489 (qf_21 (by decide) rfl) rfl ?_
  refine qy_v 4 rfl ?_
  refine qr_iaload 1490 (qf_21 (by decide) rfl) rfl (by omega) (by decide) rfl ?_
  refine qy_v (xs 4) rfl ?_
  refine qr_aload_n 1491 (qf_21 (by decide) rfl) rfl rfl ?_
  refine qr_iload_n 1492 (qf_21 (by decide) rfl) rfl rfl ?_
  refine qr_iconst 1493 (qf_21 (by decide) rfl) rfl ?_
  refine qr_iadd 1494 (qf_21 (by decide) rfl) rfl ?_
  refine qy_v 5 rfl ?_
  refine qr_iaload 1495 (qf_21 (by decide) rfl) rfl (by omega) (by decide) rfl ?_
  refine qy_v (xs 5) rfl ?_
  refine qr_call 1498 109 19340 (qf_21 (by decide) rfl) rfl (Nat.le_of_ble_eq_true rfl) (Nat.le_of_ble_eq_true rfl) rfl rfl hm ?_
  rintro _ w2 rfl
  show qr_W (qe 6 xs vb) 100 qx_e0 lw_Q0 (1498, [(3, .int (qz 0)), (2, .ref 86), (1, .ref 16), (0, .ref 0)], [.int (qz y), .int (qz y)], w2, 109, 19340)
  refine qr_icmp_eq 2040 1501 (qf_22 (by decide) rfl) rfl rfl hy hy (fun _ => ?_) (fun h => absurd rfl h)
  exact lw_end
set_option maxHeartbeats 4000000 in
set_option maxRecDepth 20000 in
theorem lw_c26 {xs : Nat → Int} {vb : Bool} {s g : Nat → Nat → Int} (hok : qo_ok s g) (rx : ∀ k, -2147483648 ≤ xs k ∧ xs k ≤ 2147483647) : qr_W (qe 6 xs vb) 100 qx_e0 lw_Q0 (1503, [(3, .int (qz 0)), (2, .ref 86), (1, .ref 16), (0, .ref 0)], [], qw (qo_s s) (qo_r g) qo_k 82, 109, 19340) := by
  refine qr_aload_n 1504 (qf_22 (by decide) rfl) rfl rfl ?_
  refine qr_aload_n 1505 (qf_22 (by decide) rfl) rfl rfl ?_
  refine qr_iload_n 1506 (qf_22 (by decide) rfl) rfl rfl ?_
  refine qr_iconst 1507 (qf_22 (by decide) rfl) rfl ?_
  refine qr_iadd 1508 (qf_22 (by decide) rfl) rfl ?_
  refine qy_v 1 rfl ?_
  refine qr_iaload 1509 (qf_22 (by decide) rfl) rfl (by omega) (by decide) rfl ?_
  refine qy_v (xs 1) rfl ?_
  refine qr_call 1512 109 19340 (qf_22 (by decide) rfl) rfl (Nat.le_of_ble_eq_true rfl) (Nat.le_of_ble_eq_true rfl) rfl rfl (lw_twoI (sx_blow (d := 99) hok (rx _))) ?_
  rintro _ _ ⟨y, hy, rfl, ⟨σ, α, κ, ρ, rfl⟩, hm⟩
  show qr_W (qe 6 xs vb) 100 qx_e0 lw_Q0 (1512, [(3, .int (qz 0)), (2, .ref 86), (1, .ref 16), (0, .ref 0)], [.int (qz y)], qw σ α κ ρ, 109, 19340)
  refine qr_aload_n 1513 (qf_22 (by decide) rfl) rfl rfl ?_
  refine qr_aload_n 1514 (qf_22 (by decide) rfl) rfl rfl ?_
  refine qr_iload_n 1515 (qf_22 (by decide) rfl) rfl rfl ?_
  refine qr_iconst 1516 (qf_22 (by decide) rfl) rfl ?_
  refine qr_iadd 1517 (qf_22 (by decide) rfl) rfl ?_
  refine qy_v 1 rfl ?_
  refine qr_iaload 1518 (qf_22 (by decide) rfl) rfl (by omega) (by decide) rfl ?_
  refine qy_v (xs 1) rfl ?_
  refine qr_call 1521 109 19340 (qf_22 (by decide) rfl) rfl (Nat.le_of_ble_eq_true rfl) (Nat.le_of_ble_eq_true rfl) rfl rfl hm ?_
  rintro _ w2 rfl
  show qr_W (qe 6 xs vb) 100 qx_e0 lw_Q0 (1521, [(3, .int (qz 0)), (2, .ref 86), (1, .ref 16), (0, .ref 0)], [.int (qz y), .int (qz y)], w2, 109, 19340)
  refine qr_icmp_eq 2040 1524 (qf_22 (by decide) rfl) rfl rfl hy hy (fun _ => ?_) (fun h => absurd rfl h)
  exact lw_end
set_option maxHeartbeats 4000000 in
set_option maxRecDepth 20000 in
theorem lw_c27 {xs : Nat → Int} {vb : Bool} {s g : Nat → Nat → Int} (hok : qo_ok s g) (rx : ∀ k, -2147483648 ≤ xs k ∧ xs k ≤ 2147483647) : qr_W (qe 6 xs vb) 100 qx_e0 lw_Q0 (1526, [(3, .int (qz 0)), (2, .ref 86), (1, .ref 16), (0, .ref 0)], [], qw (qo_s s) (qo_r g) qo_k 82, 109, 19340) := by
  refine qr_aload_n 1527 (qf_22 (by decide) rfl) rfl rfl ?_
  refine qr_call 1530 109 19340 (qf_22 (by decide) rfl) rfl (Nat.le_of_ble_eq_true rfl) (Nat.le_of_ble_eq_true rfl) rfl rfl (lw_twoL (sx_alive (d := 99) hok )) ?_
  rintro _ _ ⟨y, hy, rfl, ⟨σ, α, κ, ρ, rfl⟩, hm⟩
  show qr_W (qe 6 xs vb) 100 qx_e0 lw_Q0 (1530, [(3, .int (qz 0)), (2, .ref 86), (1, .ref 16), (0, .ref 0)], [.long (ql y)], qw σ α κ ρ, 109, 19340)
  refine qr_aload_n 1531 (qf_22 (by decide) rfl) rfl rfl ?_
  refine qr_call 1534 109 19340 (qf_22 (by decide) rfl) rfl (Nat.le_of_ble_eq_true rfl) (Nat.le_of_ble_eq_true rfl) rfl rfl hm ?_
  rintro _ w2 rfl
  show qr_W (qe 6 xs vb) 100 qx_e0 lw_Q0 (1534, [(3, .int (qz 0)), (2, .ref 86), (1, .ref 16), (0, .ref 0)], [.long (ql y), .long (ql y)], w2, 109, 19340)
  refine qr_lc_eq 2040 1538 (qf_22 (by decide) rfl) (qf_22 (by decide) rfl) rfl rfl hy hy (fun _ => ?_) (fun h => absurd rfl h)
  exact lw_end
set_option maxHeartbeats 4000000 in
set_option maxRecDepth 20000 in
theorem lw_c28 {xs : Nat → Int} {vb : Bool} {s g : Nat → Nat → Int} (hok : qo_ok s g) (rx : ∀ k, -2147483648 ≤ xs k ∧ xs k ≤ 2147483647) : qr_W (qe 6 xs vb) 100 qx_e0 lw_Q0 (1540, [(3, .int (qz 0)), (2, .ref 86), (1, .ref 16), (0, .ref 0)], [], qw (qo_s s) (qo_r g) qo_k 82, 109, 19340) := by
  refine qr_aload_n 1541 (qf_22 (by decide) rfl) rfl rfl ?_
  refine qr_aload_n 1542 (qf_22 (by decide) rfl) rfl rfl ?_
  refine qr_iload_n 1543 (qf_22 (by decide) rfl) rfl rfl ?_
  refine qr_iconst 1544 (qf_22 (by decide) rfl) rfl ?_
  refine qr_iadd 1545 (qf_22 (by decide) rfl) rfl ?_
  refine qy_v 1 rfl ?_
  refine qr_iaload 1546 (qf_22 (by decide) rfl) rfl (by omega) (by decide) rfl ?_
  refine qy_v (xs 1) rfl ?_
  refine qr_i2l 1547 (qf_22 (by decide) rfl) (rx _) rfl ?_
  refine qr_bipush 1549 (qf_22 (by decide) rfl) (by decide) rfl ?_
  refine qr_lshl 1550 (qf_22 (by decide) rfl) rfl ?_
  refine qr_aload_n 1551 (qf_22 (by decide) rfl) rfl rfl ?_
  refine qr_iload_n 1552 (qf_22 (by decide) rfl) rfl rfl ?_
  refine qr_iconst 1553 (qf_22 (by decide) rfl) rfl ?_
  refine qr_iadd 1554 (qf_22 (by decide) rfl) rfl ?_
  refine qy_v 2 rfl ?_
  refine qr_iaload 1555 (qf_22 (by decide) rfl) rfl (by omega) (by decide) rfl ?_
  refine qy_v (xs 2) rfl ?_
  refine qr_i2l 1556 (qf_22 (by decide) rfl) (rx _) rfl ?_
  refine qr_ldc2 4294967295 1559 (qf_22 (by decide) rfl) (by decide) rfl ?_
  refine qr_land 1560 (qf_22 (by decide) rfl) rfl ?_
  refine qr_lor 1561 (qf_22 (by decide) rfl) rfl ?_
  refine qr_aload_n 1562 (qf_22 (by decide) rfl) rfl rfl ?_
  refine qr_iload_n 1563 (qf_22 (by decide) rfl) rfl rfl ?_
  refine qr_iconst 1564 (qf_22 (by decide) rfl) rfl ?_
  refine qr_iadd 1565 (qf_22 (by decide) rfl) rfl ?_
  refine qy_v 3 rfl ?_
  refine qr_iaload 1566 (qf_23 (by decide) rfl) rfl (by omega) (by decide) rfl ?_
  refine qy_v (xs 3) rfl ?_
  refine qr_call 1569 109 19340 (qf_23 (by decide) rfl) rfl (Nat.le_of_ble_eq_true rfl) (Nat.le_of_ble_eq_true rfl) rfl rfl (lw_twoI (sx_worst (d := 97) hok (ql_or_r _ _) (rx _))) ?_
  rintro _ _ ⟨y, hy, rfl, ⟨σ, α, κ, ρ, rfl⟩, hm⟩
  show qr_W (qe 6 xs vb) 100 qx_e0 lw_Q0 (1569, [(3, .int (qz 0)), (2, .ref 86), (1, .ref 16), (0, .ref 0)], [.int (qz y)], qw σ α κ ρ, 109, 19340)
  refine qr_aload_n 1570 (qf_23 (by decide) rfl) rfl rfl ?_
  refine qr_aload_n 1571 (qf_23 (by decide) rfl) rfl rfl ?_
  refine qr_iload_n 1572 (qf_23 (by decide) rfl) rfl rfl ?_
  refine qr_iconst 1573 (qf_23 (by decide) rfl) rfl ?_
  refine qr_iadd 1574 (qf_23 (by decide) rfl) rfl ?_
  refine qy_v 1 rfl ?_
  refine qr_iaload 1575 (qf_23 (by decide) rfl) rfl (by omega) (by decide) rfl ?_
  refine qy_v (xs 1) rfl ?_
  refine qr_i2l 1576 (qf_23 (by decide) rfl) (rx _) rfl ?_
  refine qr_bipush 1578 (qf_23 (by decide) rfl) (by decide) rfl ?_
  refine qr_lshl 1579 (qf_23 (by decide) rfl) rfl ?_
  refine qr_aload_n 1580 (qf_23 (by decide) rfl) rfl rfl ?_
  refine qr_iload_n 1581 (qf_23 (by decide) rfl) rfl rfl ?_
  refine qr_iconst 1582 (qf_23 (by decide) rfl) rfl ?_
  refine qr_iadd 1583 (qf_23 (by decide) rfl) rfl ?_
  refine qy_v 2 rfl ?_
  refine qr_iaload 1584 (qf_23 (by decide) rfl) rfl (by omega) (by decide) rfl ?_
  refine qy_v (xs 2) rfl ?_
  refine qr_i2l 1585 (qf_23 (by decide) rfl) (rx _) rfl ?_
  refine qr_ldc2 4294967295 1588 (qf_23 (by decide) rfl) (by decide) rfl ?_
  refine qr_land 1589 (qf_23 (by decide) rfl) rfl ?_
  refine qr_lor 1590 (qf_23 (by decide) rfl) rfl ?_
  refine qr_aload_n 1591 (qf_23 (by decide) rfl) rfl rfl ?_
  refine qr_iload_n 1592 (qf_23 (by decide) rfl) rfl rfl ?_
  refine qr_iconst 1593 (qf_23 (by decide) rfl) rfl ?_
  refine qr_iadd 1594 (qf_23 (by decide) rfl) rfl ?_
  refine qy_v 3 rfl ?_
  refine qr_iaload 1595 (qf_23 (by decide) rfl) rfl (by omega) (by decide) rfl ?_
  refine qy_v (xs 3) rfl ?_
  refine qr_call 1598 109 19340 (qf_23 (by decide) rfl) rfl (Nat.le_of_ble_eq_true rfl) (Nat.le_of_ble_eq_true rfl) rfl rfl hm ?_
  rintro _ w2 rfl
  show qr_W (qe 6 xs vb) 100 qx_e0 lw_Q0 (1598, [(3, .int (qz 0)), (2, .ref 86), (1, .ref 16), (0, .ref 0)], [.int (qz y), .int (qz y)], w2, 109, 19340)
  refine qr_icmp_eq 2040 1601 (qf_23 (by decide) rfl) rfl rfl hy hy (fun _ => ?_) (fun h => absurd rfl h)
  exact lw_end
set_option maxHeartbeats 4000000 in
set_option maxRecDepth 20000 in
theorem lw_c29 {xs : Nat → Int} {vb : Bool} {s g : Nat → Nat → Int} (hok : qo_ok s g) (rx : ∀ k, -2147483648 ≤ xs k ∧ xs k ≤ 2147483647) : qr_W (qe 6 xs vb) 100 qx_e0 lw_Q0 (1603, [(3, .int (qz 0)), (2, .ref 86), (1, .ref 16), (0, .ref 0)], [], qw (qo_s s) (qo_r g) qo_k 82, 109, 19340) := by
  refine qr_aload_n 1604 (qf_23 (by decide) rfl) rfl rfl ?_
  refine qr_aload_n 1605 (qf_23 (by decide) rfl) rfl rfl ?_
  refine qr_iload_n 1606 (qf_23 (by decide) rfl) rfl rfl ?_
  refine qr_iconst 1607 (qf_23 (by decide) rfl) rfl ?_
  refine qr_iadd 1608 (qf_23 (by decide) rfl) rfl ?_
  refine qy_v 1 rfl ?_
  refine qr_iaload 1609 (qf_23 (by decide) rfl) rfl (by omega) (by decide) rfl ?_
  refine qy_v (xs 1) rfl ?_
  refine qr_aload_n 1610 (qf_23 (by decide) rfl) rfl rfl ?_
  refine qr_iload_n 1611 (qf_23 (by decide) rfl) rfl rfl ?_
  refine qr_iconst 1612 (qf_23 (by decide) rfl) rfl ?_
  refine qr_iadd 1613 (qf_23 (by decide) rfl) rfl ?_
  refine qy_v 2 rfl ?_
  refine qr_iaload 1614 (qf_23 (by decide) rfl) rfl (by omega) (by decide) rfl ?_
  refine qy_v (xs 2) rfl ?_
  refine qr_aload_n 1615 (qf_23 (by decide) rfl) rfl rfl ?_
  refine qr_iload_n 1616 (qf_23 (by decide) rfl) rfl rfl ?_
  refine qr_iconst 1617 (qf_23 (by decide) rfl) rfl ?_
  refine qr_iadd 1618 (qf_23 (by decide) rfl) rfl ?_
  refine qy_v 3 rfl ?_
  refine qr_iaload 1619 (qf_23 (by decide) rfl) rfl (by omega) (by decide) rfl ?_
  refine qy_v (xs 3) rfl ?_
  refine qr_call 1622 109 19340 (qf_23 (by decide) rfl) rfl (Nat.le_of_ble_eq_true rfl) (Nat.le_of_ble_eq_true rfl) rfl rfl (lw_twoI (sx_wed (d := 96) hok (rx _) (rx _) (rx _))) ?_
  rintro _ _ ⟨y, hy, rfl, ⟨σ, α, κ, ρ, rfl⟩, hm⟩
  show qr_W (qe 6 xs vb) 100 qx_e0 lw_Q0 (1622, [(3, .int (qz 0)), (2, .ref 86), (1, .ref 16), (0, .ref 0)], [.int (qz y)], qw σ α κ ρ, 109, 19340)
  refine qr_aload_n 1623 (qf_23 (by decide) rfl) rfl rfl ?_
  refine qr_aload_n 1624 (qf_23 (by decide) rfl) rfl rfl ?_
  refine qr_iload_n 1625 (qf_23 (by decide) rfl) rfl rfl ?_
  refine qr_iconst 1626 (qf_23 (by decide) rfl) rfl ?_
  refine qr_iadd 1627 (qf_24 (by decide) rfl) rfl ?_
  refine qy_v 1 rfl ?_
  refine qr_iaload 1628 (qf_24 (by decide) rfl) rfl (by omega) (by decide) rfl ?_
  refine qy_v (xs 1) rfl ?_
  refine qr_aload_n 1629 (qf_24 (by decide) rfl) rfl rfl ?_
  refine qr_iload_n 1630 (qf_24 (by decide) rfl) rfl rfl ?_
  refine qr_iconst 1631 (qf_24 (by decide) rfl) rfl ?_
  refine qr_iadd 1632 (qf_24 (by decide) rfl) rfl ?_
  refine qy_v 2 rfl ?_
  refine qr_iaload 1633 (qf_24 (by decide) rfl) rfl (by omega) (by decide) rfl ?_
  refine qy_v (xs 2) rfl ?_
  refine qr_aload_n 1634 (qf_24 (by decide) rfl) rfl rfl ?_
  refine qr_iload_n 1635 (qf_24 (by decide) rfl) rfl rfl ?_
  refine qr_iconst 1636 (qf_24 (by decide) rfl) rfl ?_
  refine qr_iadd 1637 (qf_24 (by decide) rfl) rfl ?_
  refine qy_v 3 rfl ?_
  refine qr_iaload 1638 (qf_24 (by decide) rfl) rfl (by omega) (by decide) rfl ?_
  refine qy_v (xs 3) rfl ?_
  refine qr_call 1641 109 19340 (qf_24 (by decide) rfl) rfl (Nat.le_of_ble_eq_true rfl) (Nat.le_of_ble_eq_true rfl) rfl rfl hm ?_
  rintro _ w2 rfl
  show qr_W (qe 6 xs vb) 100 qx_e0 lw_Q0 (1641, [(3, .int (qz 0)), (2, .ref 86), (1, .ref 16), (0, .ref 0)], [.int (qz y), .int (qz y)], w2, 109, 19340)
  refine qr_icmp_eq 2040 1644 (qf_24 (by decide) rfl) rfl rfl hy hy (fun _ => ?_) (fun h => absurd rfl h)
  exact lw_end
set_option maxHeartbeats 4000000 in
set_option maxRecDepth 20000 in
theorem lw_c30 {xs : Nat → Int} {vb : Bool} {s g : Nat → Nat → Int} (hok : qo_ok s g) (rx : ∀ k, -2147483648 ≤ xs k ∧ xs k ≤ 2147483647) : qr_W (qe 6 xs vb) 100 qx_e0 lw_Q0 (1646, [(3, .int (qz 0)), (2, .ref 86), (1, .ref 16), (0, .ref 0)], [], qw (qo_s s) (qo_r g) qo_k 82, 109, 19340) := by
  refine qr_aload_n 1647 (qf_24 (by decide) rfl) rfl rfl ?_
  refine qr_call 1650 109 19340 (qf_24 (by decide) rfl) rfl (Nat.le_of_ble_eq_true rfl) (Nat.le_of_ble_eq_true rfl) rfl rfl (lw_twoI (sx_undo (d := 98) hok )) ?_
  rintro _ _ ⟨y, hy, rfl, ⟨σ, α, κ, ρ, rfl⟩, hm⟩
  show qr_W (qe 6 xs vb) 100 qx_e0 lw_Q0 (1650, [(3, .int (qz 0)), (2, .ref 86), (1, .ref 16), (0, .ref 0)], [.int (qz y)], qw σ α κ ρ, 109, 19340)
  refine qr_aload_n 1651 (qf_24 (by decide) rfl) rfl rfl ?_
  refine qr_call 1654 109 19340 (qf_24 (by decide) rfl) rfl (Nat.le_of_ble_eq_true rfl) (Nat.le_of_ble_eq_true rfl) rfl rfl hm ?_
  rintro _ w2 rfl
  show qr_W (qe 6 xs vb) 100 qx_e0 lw_Q0 (1654, [(3, .int (qz 0)), (2, .ref 86), (1, .ref 16), (0, .ref 0)], [.int (qz y), .int (qz y)], w2, 109, 19340)
  refine qr_icmp_eq 2040 1657 (qf_24 (by decide) rfl) rfl rfl hy hy (fun _ => ?_) (fun h => absurd rfl h)
  exact lw_end
set_option maxHeartbeats 4000000 in
set_option maxRecDepth 20000 in
theorem lw_c31 {xs : Nat → Int} {vb : Bool} {s g : Nat → Nat → Int} (hok : qo_ok s g) (rx : ∀ k, -2147483648 ≤ xs k ∧ xs k ≤ 2147483647) : qr_W (qe 6 xs vb) 100 qx_e0 lw_Q0 (1659, [(3, .int (qz 0)), (2, .ref 86), (1, .ref 16), (0, .ref 0)], [], qw (qo_s s) (qo_r g) qo_k 82, 109, 19340) := by
  refine qr_aload_n 1660 (qf_24 (by decide) rfl) rfl rfl ?_
  refine qr_call 1663 109 19340 (qf_24 (by decide) rfl) rfl (Nat.le_of_ble_eq_true rfl) (Nat.le_of_ble_eq_true rfl) rfl rfl (lw_twoI (sx_redo (d := 98) hok )) ?_
  rintro _ _ ⟨y, hy, rfl, ⟨σ, α, κ, ρ, rfl⟩, hm⟩
  show qr_W (qe 6 xs vb) 100 qx_e0 lw_Q0 (1663, [(3, .int (qz 0)), (2, .ref 86), (1, .ref 16), (0, .ref 0)], [.int (qz y)], qw σ α κ ρ, 109, 19340)
  refine qr_aload_n 1664 (qf_24 (by decide) rfl) rfl rfl ?_
  refine qr_call 1667 109 19340 (qf_24 (by decide) rfl) rfl (Nat.le_of_ble_eq_true rfl) (Nat.le_of_ble_eq_true rfl) rfl rfl hm ?_
  rintro _ w2 rfl
  show qr_W (qe 6 xs vb) 100 qx_e0 lw_Q0 (1667, [(3, .int (qz 0)), (2, .ref 86), (1, .ref 16), (0, .ref 0)], [.int (qz y), .int (qz y)], w2, 109, 19340)
  refine qr_icmp_eq 2040 1670 (qf_24 (by decide) rfl) rfl rfl hy hy (fun _ => ?_) (fun h => absurd rfl h)
  exact lw_end
set_option maxHeartbeats 4000000 in
set_option maxRecDepth 20000 in
theorem lw_c32 {xs : Nat → Int} {vb : Bool} {s g : Nat → Nat → Int} (hok : qo_ok s g) (rx : ∀ k, -2147483648 ≤ xs k ∧ xs k ≤ 2147483647) : qr_W (qe 6 xs vb) 100 qx_e0 lw_Q0 (1672, [(3, .int (qz 0)), (2, .ref 86), (1, .ref 16), (0, .ref 0)], [], qw (qo_s s) (qo_r g) qo_k 82, 109, 19340) := by
  refine qr_aload_n 1673 (qf_24 (by decide) rfl) rfl rfl ?_
  refine qr_aload_n 1674 (qf_24 (by decide) rfl) rfl rfl ?_
  refine qr_iload_n 1675 (qf_24 (by decide) rfl) rfl rfl ?_
  refine qr_iconst 1676 (qf_24 (by decide) rfl) rfl ?_
  refine qr_iadd 1677 (qf_24 (by decide) rfl) rfl ?_
  refine qy_v 1 rfl ?_
  refine qr_iaload 1678 (qf_24 (by decide) rfl) rfl (by omega) (by decide) rfl ?_
  refine qy_v (xs 1) rfl ?_
  refine qr_aload_n 1679 (qf_24 (by decide) rfl) rfl rfl ?_
  refine qr_iload_n 1680 (qf_24 (by decide) rfl) rfl rfl ?_
  refine qr_iconst 1681 (qf_24 (by decide) rfl) rfl ?_
  refine qr_iadd 1682 (qf_24 (by decide) rfl) rfl ?_
  refine qy_v 2 rfl ?_
  refine qr_iaload 1683 (qf_24 (by decide) rfl) rfl (by omega) (by decide) rfl ?_
  refine qy_v (xs 2) rfl ?_
  refine qr_aload_n 1684 (qf_24 (by decide) rfl) rfl rfl ?_
  refine qr_iload_n 1685 (qf_24 (by decide) rfl) rfl rfl ?_
  refine qr_iconst 1686 (qf_24 (by decide) rfl) rfl ?_
  refine qr_iadd 1687 (qf_24 (by decide) rfl) rfl ?_
  refine qy_v 3 rfl ?_
  refine qr_iaload 1688 (qf_24 (by decide) rfl) rfl (by omega) (by decide) rfl ?_
  refine qy_v (xs 3) rfl ?_
  refine qr_call 1691 109 19340 (qf_24 (by decide) rfl) rfl (Nat.le_of_ble_eq_true rfl) (Nat.le_of_ble_eq_true rfl) rfl rfl (lw_twoI (sx_act (d := 97) hok (rx _) (rx _) (rx _))) ?_
  rintro _ _ ⟨y, hy, rfl, ⟨σ, α, κ, ρ, rfl⟩, hm⟩
  show qr_W (qe 6 xs vb) 100 qx_e0 lw_Q0 (1691, [(3, .int (qz 0)), (2, .ref 86), (1, .ref 16), (0, .ref 0)], [.int (qz y)], qw σ α κ ρ, 109, 19340)
  refine qr_aload_n 1692 (qf_24 (by decide) rfl) rfl rfl ?_
  refine qr_aload_n 1693 (qf_24 (by decide) rfl) rfl rfl ?_
  refine qr_iload_n 1694 (qf_24 (by decide) rfl) rfl rfl ?_
  refine qr_iconst 1695 (qf_25 (by decide) rfl) rfl ?_
  refine qr_iadd 1696 (qf_25 (by decide) rfl) rfl ?_
  refine qy_v 1 rfl ?_
  refine qr_iaload 1697 (qf_25 (by decide) rfl) rfl (by omega) (by decide) rfl ?_
  refine qy_v (xs 1) rfl ?_
  refine qr_aload_n 1698 (qf_25 (by decide) rfl) rfl rfl ?_
  refine qr_iload_n 1699 (qf_25 (by decide) rfl) rfl rfl ?_
  refine qr_iconst 1700 (qf_25 (by decide) rfl) rfl ?_
  refine qr_iadd 1701 (qf_25 (by decide) rfl) rfl ?_
  refine qy_v 2 rfl ?_
  refine qr_iaload 1702 (qf_25 (by decide) rfl) rfl (by omega) (by decide) rfl ?_
  refine qy_v (xs 2) rfl ?_
  refine qr_aload_n 1703 (qf_25 (by decide) rfl) rfl rfl ?_
  refine qr_iload_n 1704 (qf_25 (by decide) rfl) rfl rfl ?_
  refine qr_iconst 1705 (qf_25 (by decide) rfl) rfl ?_
  refine qr_iadd 1706 (qf_25 (by decide) rfl) rfl ?_
  refine qy_v 3 rfl ?_
  refine qr_iaload 1707 (qf_25 (by decide) rfl) rfl (by omega) (by decide) rfl ?_
  refine qy_v (xs 3) rfl ?_
  refine qr_call 1710 109 19340 (qf_25 (by decide) rfl) rfl (Nat.le_of_ble_eq_true rfl) (Nat.le_of_ble_eq_true rfl) rfl rfl hm ?_
  rintro _ w2 rfl
  show qr_W (qe 6 xs vb) 100 qx_e0 lw_Q0 (1710, [(3, .int (qz 0)), (2, .ref 86), (1, .ref 16), (0, .ref 0)], [.int (qz y), .int (qz y)], w2, 109, 19340)
  refine qr_icmp_eq 2040 1713 (qf_25 (by decide) rfl) rfl rfl hy hy (fun _ => ?_) (fun h => absurd rfl h)
  exact lw_end
set_option maxHeartbeats 4000000 in
set_option maxRecDepth 20000 in
theorem lw_c33 {xs : Nat → Int} {vb : Bool} {s g : Nat → Nat → Int} (hok : qo_ok s g) (rx : ∀ k, -2147483648 ≤ xs k ∧ xs k ≤ 2147483647) : qr_W (qe 6 xs vb) 100 qx_e0 lw_Q0 (1715, [(3, .int (qz 0)), (2, .ref 86), (1, .ref 16), (0, .ref 0)], [], qw (qo_s s) (qo_r g) qo_k 82, 109, 19340) := by
  refine qr_aload_n 1716 (qf_25 (by decide) rfl) rfl rfl ?_
  refine qr_aload_n 1717 (qf_25 (by decide) rfl) rfl rfl ?_
  refine qr_iload_n 1718 (qf_25 (by decide) rfl) rfl rfl ?_
  refine qr_iconst 1719 (qf_25 (by decide) rfl) rfl ?_
  refine qr_iadd 1720 (qf_25 (by decide) rfl) rfl ?_
  refine qy_v 1 rfl ?_
  refine qr_iaload 1721 (qf_25 (by decide) rfl) rfl (by omega) (by decide) rfl ?_
  refine qy_v (xs 1) rfl ?_
  refine qr_call 1724 109 19340 (qf_25 (by decide) rfl) rfl (Nat.le_of_ble_eq_true rfl) (Nat.le_of_ble_eq_true rfl) rfl rfl (lw_twoI (sx_trace (d := 99) hok (rx _))) ?_
  rintro _ _ ⟨y, hy, rfl, ⟨σ, α, κ, ρ, rfl⟩, hm⟩
  show qr_W (qe 6 xs vb) 100 qx_e0 lw_Q0 (1724, [(3, .int (qz 0)), (2, .ref 86), (1, .ref 16), (0, .ref 0)], [.int (qz y)], qw σ α κ ρ, 109, 19340)
  refine qr_aload_n 1725 (qf_25 (by decide) rfl) rfl rfl ?_
  refine qr_aload_n 1726 (qf_25 (by decide) rfl) rfl rfl ?_
  refine qr_iload_n 1727 (qf_25 (by decide) rfl) rfl rfl ?_
  refine qr_iconst 1728 (qf_25 (by decide) rfl) rfl ?_
  refine qr_iadd 1729 (qf_25 (by decide) rfl) rfl ?_
  refine qy_v 1 rfl ?_
  refine qr_iaload 1730 (qf_25 (by decide) rfl) rfl (by omega) (by decide) rfl ?_
  refine qy_v (xs 1) rfl ?_
  refine qr_call 1733 109 19340 (qf_25 (by decide) rfl) rfl (Nat.le_of_ble_eq_true rfl) (Nat.le_of_ble_eq_true rfl) rfl rfl hm ?_
  rintro _ w2 rfl
  show qr_W (qe 6 xs vb) 100 qx_e0 lw_Q0 (1733, [(3, .int (qz 0)), (2, .ref 86), (1, .ref 16), (0, .ref 0)], [.int (qz y), .int (qz y)], w2, 109, 19340)
  refine qr_icmp_eq 2040 1736 (qf_25 (by decide) rfl) rfl rfl hy hy (fun _ => ?_) (fun h => absurd rfl h)
  exact lw_end
set_option maxHeartbeats 4000000 in
set_option maxRecDepth 20000 in
theorem lw_c34 {xs : Nat → Int} {vb : Bool} {s g : Nat → Nat → Int} (hok : qo_ok s g) (rx : ∀ k, -2147483648 ≤ xs k ∧ xs k ≤ 2147483647) : qr_W (qe 6 xs vb) 100 qx_e0 lw_Q0 (1738, [(3, .int (qz 0)), (2, .ref 86), (1, .ref 16), (0, .ref 0)], [], qw (qo_s s) (qo_r g) qo_k 82, 109, 19340) := by
  refine qr_aload_n 1739 (qf_25 (by decide) rfl) rfl rfl ?_
  refine qr_aload_n 1740 (qf_25 (by decide) rfl) rfl rfl ?_
  refine qr_iload_n 1741 (qf_25 (by decide) rfl) rfl rfl ?_
  refine qr_iconst 1742 (qf_25 (by decide) rfl) rfl ?_
  refine qr_iadd 1743 (qf_25 (by decide) rfl) rfl ?_
  refine qy_v 1 rfl ?_
  refine qr_iaload 1744 (qf_25 (by decide) rfl) rfl (by omega) (by decide) rfl ?_
  refine qy_v (xs 1) rfl ?_
  refine qr_aload_n 1745 (qf_25 (by decide) rfl) rfl rfl ?_
  refine qr_iload_n 1746 (qf_25 (by decide) rfl) rfl rfl ?_
  refine qr_iconst 1747 (qf_25 (by decide) rfl) rfl ?_
  refine qr_iadd 1748 (qf_25 (by decide) rfl) rfl ?_
  refine qy_v 2 rfl ?_
  refine qr_iaload 1749 (qf_25 (by decide) rfl) rfl (by omega) (by decide) rfl ?_
  refine qy_v (xs 2) rfl ?_
  refine qr_call 1752 109 19340 (qf_25 (by decide) rfl) rfl (Nat.le_of_ble_eq_true rfl) (Nat.le_of_ble_eq_true rfl) rfl rfl (lw_twoI (sx_keep (d := 97) hok (rx _) (rx _))) ?_
  rintro _ _ ⟨y, hy, rfl, ⟨σ, α, κ, ρ, rfl⟩, hm⟩
  show qr_W (qe 6 xs vb) 100 qx_e0 lw_Q0 (1752, [(3, .int (qz 0)), (2, .ref 86), (1, .ref 16), (0, .ref 0)], [.int (qz y)], qw σ α κ ρ, 109, 19340)
  refine qr_aload_n 1753 (qf_25 (by decide) rfl) rfl rfl ?_
  refine qr_aload_n 1754 (qf_25 (by decide) rfl) rfl rfl ?_
  refine qr_iload_n 1755 (qf_25 (by decide) rfl) rfl rfl ?_
  refine qr_iconst 1756 (qf_25 (by decide) rfl) rfl ?_
  refine qr_iadd 1757 (qf_26 (by decide) rfl) rfl ?_
  refine qy_v 1 rfl ?_
  refine qr_iaload 1758 (qf_26 (by decide) rfl) rfl (by omega) (by decide) rfl ?_
  refine qy_v (xs 1) rfl ?_
  refine qr_aload_n 1759 (qf_26 (by decide) rfl) rfl rfl ?_
  refine qr_iload_n 1760 (qf_26 (by decide) rfl) rfl rfl ?_
  refine qr_iconst 1761 (qf_26 (by decide) rfl) rfl ?_
  refine qr_iadd 1762 (qf_26 (by decide) rfl) rfl ?_
  refine qy_v 2 rfl ?_
  refine qr_iaload 1763 (qf_26 (by decide) rfl) rfl (by omega) (by decide) rfl ?_
  refine qy_v (xs 2) rfl ?_
  refine qr_call 1766 109 19340 (qf_26 (by decide) rfl) rfl (Nat.le_of_ble_eq_true rfl) (Nat.le_of_ble_eq_true rfl) rfl rfl hm ?_
  rintro _ w2 rfl
  show qr_W (qe 6 xs vb) 100 qx_e0 lw_Q0 (1766, [(3, .int (qz 0)), (2, .ref 86), (1, .ref 16), (0, .ref 0)], [.int (qz y), .int (qz y)], w2, 109, 19340)
  refine qr_icmp_eq 2040 1769 (qf_26 (by decide) rfl) rfl rfl hy hy (fun _ => ?_) (fun h => absurd rfl h)
  exact lw_end
set_option maxHeartbeats 4000000 in
set_option maxRecDepth 20000 in
theorem lw_c35 {xs : Nat → Int} {vb : Bool} {s g : Nat → Nat → Int} (hok : qo_ok s g) (rx : ∀ k, -2147483648 ≤ xs k ∧ xs k ≤ 2147483647) : qr_W (qe 6 xs vb) 100 qx_e0 lw_Q0 (1771, [(3, .int (qz 0)), (2, .ref 86), (1, .ref 16), (0, .ref 0)], [], qw (qo_s s) (qo_r g) qo_k 82, 109, 19340) := by
  refine qr_aload_n 1772 (qf_26 (by decide) rfl) rfl rfl ?_
  refine qr_aload_n 1773 (qf_26 (by decide) rfl) rfl rfl ?_
  refine qr_iload_n 1774 (qf_26 (by decide) rfl) rfl rfl ?_
  refine qr_iconst 1775 (qf_26 (by decide) rfl) rfl ?_
  refine qr_iadd 1776 (qf_26 (by decide) rfl) rfl ?_
  refine qy_v 1 rfl ?_
  refine qr_iaload 1777 (qf_26 (by decide) rfl) rfl (by omega) (by decide) rfl ?_
  refine qy_v (xs 1) rfl ?_
  refine qr_aload_n 1778 (qf_26 (by decide) rfl) rfl rfl ?_
  refine qr_iload_n 1779 (qf_26 (by decide) rfl) rfl rfl ?_
  refine qr_iconst 1780 (qf_26 (by decide) rfl) rfl ?_
  refine qr_iadd 1781 (qf_26 (by decide) rfl) rfl ?_
  refine qy_v 2 rfl ?_
  refine qr_iaload 1782 (qf_26 (by decide) rfl) rfl (by omega) (by decide) rfl ?_
  refine qy_v (xs 2) rfl ?_
  refine qr_aload_n 1783 (qf_26 (by decide) rfl) rfl rfl ?_
  refine qr_iload_n 1784 (qf_26 (by decide) rfl) rfl rfl ?_
  refine qr_iconst 1785 (qf_26 (by decide) rfl) rfl ?_
  refine qr_iadd 1786 (qf_26 (by decide) rfl) rfl ?_
  refine qy_v 3 rfl ?_
  refine qr_iaload 1787 (qf_26 (by decide) rfl) rfl (by omega) (by decide) rfl ?_
  refine qy_v (xs 3) rfl ?_
  refine qr_call 1790 109 19340 (qf_26 (by decide) rfl) rfl (Nat.le_of_ble_eq_true rfl) (Nat.le_of_ble_eq_true rfl) rfl rfl (lw_twoI (sx_row (d := 97) hok (rx _) (rx _) (rx _))) ?_
  rintro _ _ ⟨y, hy, rfl, ⟨σ, α, κ, ρ, rfl⟩, hm⟩
  show qr_W (qe 6 xs vb) 100 qx_e0 lw_Q0 (1790, [(3, .int (qz 0)), (2, .ref 86), (1, .ref 16), (0, .ref 0)], [.int (qz y)], qw σ α κ ρ, 109, 19340)
  refine qr_aload_n 1791 (qf_26 (by decide) rfl) rfl rfl ?_
  refine qr_aload_n 1792 (qf_26 (by decide) rfl) rfl rfl ?_
  refine qr_iload_n 1793 (qf_26 (by decide) rfl) rfl rfl ?_
  refine qr_iconst 1794 (qf_26 (by decide) rfl) rfl ?_
  refine qr_iadd 1795 (qf_26 (by decide) rfl) rfl ?_
  refine qy_v 1 rfl ?_
  refine qr_iaload 1796 (qf_26 (by decide) rfl) rfl (by omega) (by decide) rfl ?_
  refine qy_v (xs 1) rfl ?_
  refine qr_aload_n 1797 (qf_26 (by decide) rfl) rfl rfl ?_
  refine qr_iload_n 1798 (qf_26 (by decide) rfl) rfl rfl ?_
  refine qr_iconst 1799 (qf_26 (by decide) rfl) rfl ?_
  refine qr_iadd 1800 (qf_26 (by decide) rfl) rfl ?_
  refine qy_v 2 rfl ?_
  refine qr_iaload 1801 (qf_26 (by decide) rfl) rfl (by omega) (by decide) rfl ?_
  refine qy_v (xs 2) rfl ?_
  refine qr_aload_n 1802 (qf_26 (by decide) rfl) rfl rfl ?_
  refine qr_iload_n 1803 (qf_26 (by decide) rfl) rfl rfl ?_
  refine qr_iconst 1804 (qf_26 (by decide) rfl) rfl ?_
  refine qr_iadd 1805 (qf_26 (by decide) rfl) rfl ?_
  refine qy_v 3 rfl ?_
  refine qr_iaload 1806 (qf_26 (by decide) rfl) rfl (by omega) (by decide) rfl ?_
  refine qy_v (xs 3) rfl ?_
  refine qr_call 1809 109 19340 (qf_26 (by decide) rfl) rfl (Nat.le_of_ble_eq_true rfl) (Nat.le_of_ble_eq_true rfl) rfl rfl hm ?_
  rintro _ w2 rfl
  show qr_W (qe 6 xs vb) 100 qx_e0 lw_Q0 (1809, [(3, .int (qz 0)), (2, .ref 86), (1, .ref 16), (0, .ref 0)], [.int (qz y), .int (qz y)], w2, 109, 19340)
  refine qr_icmp_eq 2040 1812 (qf_26 (by decide) rfl) rfl rfl hy hy (fun _ => ?_) (fun h => absurd rfl h)
  exact lw_end
set_option maxHeartbeats 4000000 in
set_option maxRecDepth 20000 in
theorem lw_c36 {xs : Nat → Int} {vb : Bool} {s g : Nat → Nat → Int} (hok : qo_ok s g) (rx : ∀ k, -2147483648 ≤ xs k ∧ xs k ≤ 2147483647) : qr_W (qe 6 xs vb) 100 qx_e0 lw_Q0 (1814, [(3, .int (qz 0)), (2, .ref 86), (1, .ref 16), (0, .ref 0)], [], qw (qo_s s) (qo_r g) qo_k 82, 109, 19340) := by
  refine qr_aload_n 1815 (qf_26 (by decide) rfl) rfl rfl ?_
  refine qr_aload_n 1816 (qf_26 (by decide) rfl) rfl rfl ?_
  refine qr_iload_n 1817 (qf_27 (by decide) rfl) rfl rfl ?_
  refine qr_iconst 1818 (qf_27 (by decide) rfl) rfl ?_
  refine qr_iadd 1819 (qf_27 (by decide) rfl) rfl ?_
  refine qy_v 1 rfl ?_
  refine qr_iaload 1820 (qf_27 (by decide) rfl) rfl (by omega) (by decide) rfl ?_
  refine qy_v (xs 1) rfl ?_
  refine qr_aload_n 1821 (qf_27 (by decide) rfl) rfl rfl ?_
  refine qr_iload_n 1822 (qf_27 (by decide) rfl) rfl rfl ?_
  refine qr_iconst 1823 (qf_27 (by decide) rfl) rfl ?_
  refine qr_iadd 1824 (qf_27 (by decide) rfl) rfl ?_
  refine qy_v 2 rfl ?_
  refine qr_iaload 1825 (qf_27 (by decide) rfl) rfl (by omega) (by decide) rfl ?_
  refine qy_v (xs 2) rfl ?_
  refine qr_aload_n 1826 (qf_27 (by decide) rfl) rfl rfl ?_
  refine qr_iload_n 1827 (qf_27 (by decide) rfl) rfl rfl ?_
  refine qr_iconst 1828 (qf_27 (by decide) rfl) rfl ?_
  refine qr_iadd 1829 (qf_27 (by decide) rfl) rfl ?_
  refine qy_v 3 rfl ?_
  refine qr_iaload 1830 (qf_27 (by decide) rfl) rfl (by omega) (by decide) rfl ?_
  refine qy_v (xs 3) rfl ?_
  refine qr_i2l 1831 (qf_27 (by decide) rfl) (rx _) rfl ?_
  refine qr_bipush 1833 (qf_27 (by decide) rfl) (by decide) rfl ?_
  refine qr_lshl 1834 (qf_27 (by decide) rfl) rfl ?_
  refine qr_aload_n 1835 (qf_27 (by decide) rfl) rfl rfl ?_
  refine qr_iload_n 1836 (qf_27 (by decide) rfl) rfl rfl ?_
  refine qr_iconst 1837 (qf_27 (by decide) rfl) rfl ?_
  refine qr_iadd 1838 (qf_27 (by decide) rfl) rfl ?_
  refine qy_v 4 rfl ?_
  refine qr_iaload 1839 (qf_27 (by decide) rfl) rfl (by omega) (by decide) rfl ?_
  refine qy_v (xs 4) rfl ?_
  refine qr_i2l 1840 (qf_27 (by decide) rfl) (rx _) rfl ?_
  refine qr_ldc2 4294967295 1843 (qf_27 (by decide) rfl) (by decide) rfl ?_
  refine qr_land 1844 (qf_27 (by decide) rfl) rfl ?_
  refine qr_lor 1845 (qf_27 (by decide) rfl) rfl ?_
  refine qr_call 1848 109 19340 (qf_27 (by decide) rfl) rfl (Nat.le_of_ble_eq_true rfl) (Nat.le_of_ble_eq_true rfl) rfl rfl (lw_twoI (sx_put (d := 96) hok (rx _) (rx _) (ql_or_r _ _))) ?_
  rintro _ _ ⟨y, hy, rfl, ⟨σ, α, κ, ρ, rfl⟩, hm⟩
  show qr_W (qe 6 xs vb) 100 qx_e0 lw_Q0 (1848, [(3, .int (qz 0)), (2, .ref 86), (1, .ref 16), (0, .ref 0)], [.int (qz y)], qw σ α κ ρ, 109, 19340)
  refine qr_aload_n 1849 (qf_27 (by decide) rfl) rfl rfl ?_
  refine qr_aload_n 1850 (qf_27 (by decide) rfl) rfl rfl ?_
  refine qr_iload_n 1851 (qf_27 (by decide) rfl) rfl rfl ?_
  refine qr_iconst 1852 (qf_27 (by decide) rfl) rfl ?_
  refine qr_iadd 1853 (qf_27 (by decide) rfl) rfl ?_
  refine qy_v 1 rfl ?_
  refine qr_iaload 1854 (qf_27 (by decide) rfl) rfl (by omega) (by decide) rfl ?_
  refine qy_v (xs 1) rfl ?_
  refine qr_aload_n 1855 (qf_27 (by decide) rfl) rfl rfl ?_
  refine qr_iload_n 1856 (qf_27 (by decide) rfl) rfl rfl ?_
  refine qr_iconst 1857 (qf_27 (by decide) rfl) rfl ?_
  refine qr_iadd 1858 (qf_27 (by decide) rfl) rfl ?_
  refine qy_v 2 rfl ?_
  refine qr_iaload 1859 (qf_27 (by decide) rfl) rfl (by omega) (by decide) rfl ?_
  refine qy_v (xs 2) rfl ?_
  refine qr_aload_n 1860 (qf_27 (by decide) rfl) rfl rfl ?_
  refine qr_iload_n 1861 (qf_27 (by decide) rfl) rfl rfl ?_
  refine qr_iconst 1862 (qf_27 (by decide) rfl) rfl ?_
  refine qr_iadd 1863 (qf_27 (by decide) rfl) rfl ?_
  refine qy_v 3 rfl ?_
  refine qr_iaload 1864 (qf_27 (by decide) rfl) rfl (by omega) (by decide) rfl ?_
  refine qy_v (xs 3) rfl ?_
  refine qr_i2l 1865 (qf_27 (by decide) rfl) (rx _) rfl ?_
  refine qr_bipush 1867 (qf_27 (by decide) rfl) (by decide) rfl ?_
  refine qr_lshl 1868 (qf_27 (by decide) rfl) rfl ?_
  refine qr_aload_n 1869 (qf_27 (by decide) rfl) rfl rfl ?_
  refine qr_iload_n 1870 (qf_27 (by decide) rfl) rfl rfl ?_
  refine qr_iconst 1871 (qf_27 (by decide) rfl) rfl ?_
  refine qr_iadd 1872 (qf_27 (by decide) rfl) rfl ?_
  refine qy_v 4 rfl ?_
  refine qr_iaload 1873 (qf_28 (by decide) rfl) rfl (by omega) (by decide) rfl ?_
  refine qy_v (xs 4) rfl ?_
  refine qr_i2l 1874 (qf_28 (by decide) rfl) (rx _) rfl ?_
  refine qr_ldc2 4294967295 1877 (qf_28 (by decide) rfl) (by decide) rfl ?_
  refine qr_land 1878 (qf_28 (by decide) rfl) rfl ?_
  refine qr_lor 1879 (qf_28 (by decide) rfl) rfl ?_
  refine qr_call 1882 109 19340 (qf_28 (by decide) rfl) rfl (Nat.le_of_ble_eq_true rfl) (Nat.le_of_ble_eq_true rfl) rfl rfl hm ?_
  rintro _ w2 rfl
  show qr_W (qe 6 xs vb) 100 qx_e0 lw_Q0 (1882, [(3, .int (qz 0)), (2, .ref 86), (1, .ref 16), (0, .ref 0)], [.int (qz y), .int (qz y)], w2, 109, 19340)
  refine qr_icmp_eq 2040 1885 (qf_28 (by decide) rfl) rfl rfl hy hy (fun _ => ?_) (fun h => absurd rfl h)
  exact lw_end
set_option maxHeartbeats 4000000 in
set_option maxRecDepth 20000 in
theorem lw_c37 {xs : Nat → Int} {vb : Bool} {s g : Nat → Nat → Int} (hok : qo_ok s g) (rx : ∀ k, -2147483648 ≤ xs k ∧ xs k ≤ 2147483647) : qr_W (qe 6 xs vb) 100 qx_e0 lw_Q0 (1887, [(3, .int (qz 0)), (2, .ref 86), (1, .ref 16), (0, .ref 0)], [], qw (qo_s s) (qo_r g) qo_k 82, 109, 19340) := by
  refine qr_aload_n 1888 (qf_28 (by decide) rfl) rfl rfl ?_
  refine qr_aload_n 1889 (qf_28 (by decide) rfl) rfl rfl ?_
  refine qr_iload_n 1890 (qf_28 (by decide) rfl) rfl rfl ?_
  refine qr_iconst 1891 (qf_28 (by decide) rfl) rfl ?_
  refine qr_iadd 1892 (qf_28 (by decide) rfl) rfl ?_
  refine qy_v 1 rfl ?_
  refine qr_iaload 1893 (qf_28 (by decide) rfl) rfl (by omega) (by decide) rfl ?_
  refine qy_v (xs 1) rfl ?_
  refine qr_aload_n 1894 (qf_28 (by decide) rfl) rfl rfl ?_
  refine qr_iload_n 1895 (qf_28 (by decide) rfl) rfl rfl ?_
  refine qr_iconst 1896 (qf_28 (by decide) rfl) rfl ?_
  refine qr_iadd 1897 (qf_28 (by decide) rfl) rfl ?_
  refine qy_v 2 rfl ?_
  refine qr_iaload 1898 (qf_28 (by decide) rfl) rfl (by omega) (by decide) rfl ?_
  refine qy_v (xs 2) rfl ?_
  refine qr_call 1901 109 19340 (qf_28 (by decide) rfl) rfl (Nat.le_of_ble_eq_true rfl) (Nat.le_of_ble_eq_true rfl) rfl rfl (lw_twoL (sx_element (d := 96) hok (rx _) (rx _))) ?_
  rintro _ _ ⟨y, hy, rfl, ⟨σ, α, κ, ρ, rfl⟩, hm⟩
  show qr_W (qe 6 xs vb) 100 qx_e0 lw_Q0 (1901, [(3, .int (qz 0)), (2, .ref 86), (1, .ref 16), (0, .ref 0)], [.long (ql y)], qw σ α κ ρ, 109, 19340)
  refine qr_aload_n 1902 (qf_28 (by decide) rfl) rfl rfl ?_
  refine qr_aload_n 1903 (qf_28 (by decide) rfl) rfl rfl ?_
  refine qr_iload_n 1904 (qf_28 (by decide) rfl) rfl rfl ?_
  refine qr_iconst 1905 (qf_28 (by decide) rfl) rfl ?_
  refine qr_iadd 1906 (qf_28 (by decide) rfl) rfl ?_
  refine qy_v 1 rfl ?_
  refine qr_iaload 1907 (qf_28 (by decide) rfl) rfl (by omega) (by decide) rfl ?_
  refine qy_v (xs 1) rfl ?_
  refine qr_aload_n 1908 (qf_28 (by decide) rfl) rfl rfl ?_
  refine qr_iload_n 1909 (qf_28 (by decide) rfl) rfl rfl ?_
  refine qr_iconst 1910 (qf_28 (by decide) rfl) rfl ?_
  refine qr_iadd 1911 (qf_28 (by decide) rfl) rfl ?_
  refine qy_v 2 rfl ?_
  refine qr_iaload 1912 (qf_28 (by decide) rfl) rfl (by omega) (by decide) rfl ?_
  refine qy_v (xs 2) rfl ?_
  refine qr_call 1915 109 19340 (qf_28 (by decide) rfl) rfl (Nat.le_of_ble_eq_true rfl) (Nat.le_of_ble_eq_true rfl) rfl rfl hm ?_
  rintro _ w2 rfl
  show qr_W (qe 6 xs vb) 100 qx_e0 lw_Q0 (1915, [(3, .int (qz 0)), (2, .ref 86), (1, .ref 16), (0, .ref 0)], [.long (ql y), .long (ql y)], w2, 109, 19340)
  refine qr_lc_eq 2040 1919 (qf_28 (by decide) rfl) (qf_28 (by decide) rfl) rfl rfl hy hy (fun _ => ?_) (fun h => absurd rfl h)
  exact lw_end
set_option maxHeartbeats 4000000 in
set_option maxRecDepth 20000 in
theorem lw_c38 {xs : Nat → Int} {vb : Bool} {s g : Nat → Nat → Int} (hok : qo_ok s g) (rx : ∀ k, -2147483648 ≤ xs k ∧ xs k ≤ 2147483647) : qr_W (qe 6 xs vb) 100 qx_e0 lw_Q0 (1921, [(3, .int (qz 0)), (2, .ref 86), (1, .ref 16), (0, .ref 0)], [], qw (qo_s s) (qo_r g) qo_k 82, 109, 19340) := by
  refine qr_aload_n 1922 (qf_28 (by decide) rfl) rfl rfl ?_
  refine qr_aload_n 1923 (qf_28 (by decide) rfl) rfl rfl ?_
  refine qr_iload_n 1924 (qf_28 (by decide) rfl) rfl rfl ?_
  refine qr_iconst 1925 (qf_28 (by decide) rfl) rfl ?_
  refine qr_iadd 1926 (qf_28 (by decide) rfl) rfl ?_
  refine qy_v 1 rfl ?_
  refine qr_iaload 1927 (qf_28 (by decide) rfl) rfl (by omega) (by decide) rfl ?_
  refine qy_v (xs 1) rfl ?_
  refine qr_aload_n 1928 (qf_28 (by decide) rfl) rfl rfl ?_
  refine qr_iload_n 1929 (qf_28 (by decide) rfl) rfl rfl ?_
  refine qr_iconst 1930 (qf_28 (by decide) rfl) rfl ?_
  refine qr_iadd 1931 (qf_28 (by decide) rfl) rfl ?_
  refine qy_v 2 rfl ?_
  refine qr_iaload 1932 (qf_28 (by decide) rfl) rfl (by omega) (by decide) rfl ?_
  refine qy_v (xs 2) rfl ?_
  refine qr_aload_n 1933 (qf_28 (by decide) rfl) rfl rfl ?_
  refine qr_iload_n 1934 (qf_28 (by decide) rfl) rfl rfl ?_
  refine qr_iconst 1935 (qf_29 (by decide) rfl) rfl ?_
  refine qr_iadd 1936 (qf_29 (by decide) rfl) rfl ?_
  refine qy_v 3 rfl ?_
  refine qr_iaload 1937 (qf_29 (by decide) rfl) rfl (by omega) (by decide) rfl ?_
  refine qy_v (xs 3) rfl ?_
  refine qr_aload_n 1938 (qf_29 (by decide) rfl) rfl rfl ?_
  refine qr_iload_n 1939 (qf_29 (by decide) rfl) rfl rfl ?_
  refine qr_iconst 1940 (qf_29 (by decide) rfl) rfl ?_
  refine qr_iadd 1941 (qf_29 (by decide) rfl) rfl ?_
  refine qy_v 4 rfl ?_
  refine qr_iaload 1942 (qf_29 (by decide) rfl) rfl (by omega) (by decide) rfl ?_
  refine qy_v (xs 4) rfl ?_
  refine qr_aload_n 1943 (qf_29 (by decide) rfl) rfl rfl ?_
  refine qr_iload_n 1944 (qf_29 (by decide) rfl) rfl rfl ?_
  refine qr_iconst 1945 (qf_29 (by decide) rfl) rfl ?_
  refine qr_iadd 1946 (qf_29 (by decide) rfl) rfl ?_
  refine qy_v 5 rfl ?_
  refine qr_iaload 1947 (qf_29 (by decide) rfl) rfl (by omega) (by decide) rfl ?_
  refine qy_v (xs 5) rfl ?_
  refine qr_call 1950 109 19340 (qf_29 (by decide) rfl) rfl (Nat.le_of_ble_eq_true rfl) (Nat.le_of_ble_eq_true rfl) rfl rfl (lw_twoI (sx_shift (d := 97) hok (rx _) (rx _) (rx _) (rx _) (rx _))) ?_
  rintro _ _ ⟨y, hy, rfl, ⟨σ, α, κ, ρ, rfl⟩, hm⟩
  show qr_W (qe 6 xs vb) 100 qx_e0 lw_Q0 (1950, [(3, .int (qz 0)), (2, .ref 86), (1, .ref 16), (0, .ref 0)], [.int (qz y)], qw σ α κ ρ, 109, 19340)
  refine qr_aload_n 1951 (qf_29 (by decide) rfl) rfl rfl ?_
  refine qr_aload_n 1952 (qf_29 (by decide) rfl) rfl rfl ?_
  refine qr_iload_n 1953 (qf_29 (by decide) rfl) rfl rfl ?_
  refine qr_iconst 1954 (qf_29 (by decide) rfl) rfl ?_
  refine qr_iadd 1955 (qf_29 (by decide) rfl) rfl ?_
  refine qy_v 1 rfl ?_
  refine qr_iaload 1956 (qf_29 (by decide) rfl) rfl (by omega) (by decide) rfl ?_
  refine qy_v (xs 1) rfl ?_
  refine qr_aload_n 1957 (qf_29 (by decide) rfl) rfl rfl ?_
  refine qr_iload_n 1958 (qf_29 (by decide) rfl) rfl rfl ?_
  refine qr_iconst 1959 (qf_29 (by decide) rfl) rfl ?_
  refine qr_iadd 1960 (qf_29 (by decide) rfl) rfl ?_
  refine qy_v 2 rfl ?_
  refine qr_iaload 1961 (qf_29 (by decide) rfl) rfl (by omega) (by decide) rfl ?_
  refine qy_v (xs 2) rfl ?_
  refine qr_aload_n 1962 (qf_29 (by decide) rfl) rfl rfl ?_
  refine qr_iload_n 1963 (qf_29 (by decide) rfl) rfl rfl ?_
  refine qr_iconst 1964 (qf_29 (by decide) rfl) rfl ?_
  refine qr_iadd 1965 (qf_29 (by decide) rfl) rfl ?_
  refine qy_v 3 rfl ?_
  refine qr_iaload 1966 (qf_29 (by decide) rfl) rfl (by omega) (by decide) rfl ?_
  refine qy_v (xs 3) rfl ?_
  refine qr_aload_n 1967 (qf_29 (by decide) rfl) rfl rfl ?_
  refine qr_iload_n 1968 (qf_29 (by decide) rfl) rfl rfl ?_
  refine qr_iconst 1969 (qf_29 (by decide) rfl) rfl ?_
  refine qr_iadd 1970 (qf_29 (by decide) rfl) rfl ?_
  refine qy_v 4 rfl ?_
  refine qr_iaload 1971 (qf_29 (by decide) rfl) rfl (by omega) (by decide) rfl ?_
  refine qy_v (xs 4) rfl ?_
  refine qr_aload_n 1972 (qf_29 (by decide) rfl) rfl rfl ?_
  refine qr_iload_n 1973 (qf_29 (by decide) rfl) rfl rfl ?_
  refine qr_iconst 1974 (qf_29 (by decide) rfl) rfl ?_
  refine qr_iadd 1975 (qf_29 (by decide) rfl) rfl ?_
  refine qy_v 5 rfl ?_
  refine qr_iaload 1976 (qf_29 (by decide) rfl) rfl (by omega) (by decide) rfl ?_
  refine qy_v (xs 5) rfl ?_
  refine qr_call 1979 109 19340 (qf_29 (by decide) rfl) rfl (Nat.le_of_ble_eq_true rfl) (Nat.le_of_ble_eq_true rfl) rfl rfl hm ?_
  rintro _ w2 rfl
  show qr_W (qe 6 xs vb) 100 qx_e0 lw_Q0 (1979, [(3, .int (qz 0)), (2, .ref 86), (1, .ref 16), (0, .ref 0)], [.int (qz y), .int (qz y)], w2, 109, 19340)
  refine qr_icmp_eq 2040 1982 (qf_29 (by decide) rfl) rfl rfl hy hy (fun _ => ?_) (fun h => absurd rfl h)
  exact lw_end
set_option maxHeartbeats 4000000 in
set_option maxRecDepth 20000 in
theorem lw_c39 {xs : Nat → Int} {vb : Bool} {s g : Nat → Nat → Int} (hok : qo_ok s g) (rx : ∀ k, -2147483648 ≤ xs k ∧ xs k ≤ 2147483647) : qr_W (qe 6 xs vb) 100 qx_e0 lw_Q0 (1984, [(3, .int (qz 0)), (2, .ref 86), (1, .ref 16), (0, .ref 0)], [], qw (qo_s s) (qo_r g) qo_k 82, 109, 19340) := by
  refine qr_aload_n 1985 (qf_29 (by decide) rfl) rfl rfl ?_
  refine qr_aload_n 1986 (qf_29 (by decide) rfl) rfl rfl ?_
  refine qr_iload_n 1987 (qf_29 (by decide) rfl) rfl rfl ?_
  refine qr_iconst 1988 (qf_29 (by decide) rfl) rfl ?_
  refine qr_iadd 1989 (qf_29 (by decide) rfl) rfl ?_
  refine qy_v 1 rfl ?_
  refine qr_iaload 1990 (qf_29 (by decide) rfl) rfl (by omega) (by decide) rfl ?_
  refine qy_v (xs 1) rfl ?_
  refine qr_aload_n 1991 (qf_30 (by decide) rfl) rfl rfl ?_
  refine qr_iload_n 1992 (qf_30 (by decide) rfl) rfl rfl ?_
  refine qr_iconst 1993 (qf_30 (by decide) rfl) rfl ?_
  refine qr_iadd 1994 (qf_30 (by decide) rfl) rfl ?_
  refine qy_v 2 rfl ?_
  refine qr_iaload 1995 (qf_30 (by decide) rfl) rfl (by omega) (by decide) rfl ?_
  refine qy_v (xs 2) rfl ?_
  refine qr_call 1998 109 19340 (qf_30 (by decide) rfl) rfl (Nat.le_of_ble_eq_true rfl) (Nat.le_of_ble_eq_true rfl) rfl rfl (lw_twoI (sx_taken (d := 97) hok (rx _) (rx _))) ?_
  rintro _ _ ⟨y, hy, rfl, ⟨σ, α, κ, ρ, rfl⟩, hm⟩
  show qr_W (qe 6 xs vb) 100 qx_e0 lw_Q0 (1998, [(3, .int (qz 0)), (2, .ref 86), (1, .ref 16), (0, .ref 0)], [.int (qz y)], qw σ α κ ρ, 109, 19340)
  refine qr_aload_n 1999 (qf_30 (by decide) rfl) rfl rfl ?_
  refine qr_aload_n 2000 (qf_30 (by decide) rfl) rfl rfl ?_
  refine qr_iload_n 2001 (qf_30 (by decide) rfl) rfl rfl ?_
  refine qr_iconst 2002 (qf_30 (by decide) rfl) rfl ?_
  refine qr_iadd 2003 (qf_30 (by decide) rfl) rfl ?_
  refine qy_v 1 rfl ?_
  refine qr_iaload 2004 (qf_30 (by decide) rfl) rfl (by omega) (by decide) rfl ?_
  refine qy_v (xs 1) rfl ?_
  refine qr_aload_n 2005 (qf_30 (by decide) rfl) rfl rfl ?_
  refine qr_iload_n 2006 (qf_30 (by decide) rfl) rfl rfl ?_
  refine qr_iconst 2007 (qf_30 (by decide) rfl) rfl ?_
  refine qr_iadd 2008 (qf_30 (by decide) rfl) rfl ?_
  refine qy_v 2 rfl ?_
  refine qr_iaload 2009 (qf_30 (by decide) rfl) rfl (by omega) (by decide) rfl ?_
  refine qy_v (xs 2) rfl ?_
  refine qr_call 2012 109 19340 (qf_30 (by decide) rfl) rfl (Nat.le_of_ble_eq_true rfl) (Nat.le_of_ble_eq_true rfl) rfl rfl hm ?_
  rintro _ w2 rfl
  show qr_W (qe 6 xs vb) 100 qx_e0 lw_Q0 (2012, [(3, .int (qz 0)), (2, .ref 86), (1, .ref 16), (0, .ref 0)], [.int (qz y), .int (qz y)], w2, 109, 19340)
  refine qr_icmp_eq 2040 2015 (qf_30 (by decide) rfl) rfl rfl hy hy (fun _ => ?_) (fun h => absurd rfl h)
  exact lw_end
set_option maxHeartbeats 4000000 in
set_option maxRecDepth 20000 in
theorem lw_c40 {xs : Nat → Int} {vb : Bool} {s g : Nat → Nat → Int} (hok : qo_ok s g) (rx : ∀ k, -2147483648 ≤ xs k ∧ xs k ≤ 2147483647) : qr_W (qe 6 xs vb) 100 qx_e0 lw_Q0 (2017, [(3, .int (qz 0)), (2, .ref 86), (1, .ref 16), (0, .ref 0)], [], qw (qo_s s) (qo_r g) qo_k 82, 109, 19340) := by
  refine qr_aload_n 2018 (qf_30 (by decide) rfl) rfl rfl ?_
  refine qr_aload_n 2019 (qf_30 (by decide) rfl) rfl rfl ?_
  refine qr_iload_n 2020 (qf_30 (by decide) rfl) rfl rfl ?_
  refine qr_iconst 2021 (qf_30 (by decide) rfl) rfl ?_
  refine qr_iadd 2022 (qf_30 (by decide) rfl) rfl ?_
  refine qy_v 1 rfl ?_
  refine qr_iaload 2023 (qf_30 (by decide) rfl) rfl (by omega) (by decide) rfl ?_
  refine qy_v (xs 1) rfl ?_
  refine qr_call 2026 109 19340 (qf_30 (by decide) rfl) rfl (Nat.le_of_ble_eq_true rfl) (Nat.le_of_ble_eq_true rfl) rfl rfl (lw_twoI (sx_count (d := 98) hok (rx _))) ?_
  rintro _ _ ⟨y, hy, rfl, ⟨σ, α, κ, ρ, rfl⟩, hm⟩
  show qr_W (qe 6 xs vb) 100 qx_e0 lw_Q0 (2026, [(3, .int (qz 0)), (2, .ref 86), (1, .ref 16), (0, .ref 0)], [.int (qz y)], qw σ α κ ρ, 109, 19340)
  refine qr_aload_n 2027 (qf_30 (by decide) rfl) rfl rfl ?_
  refine qr_aload_n 2028 (qf_30 (by decide) rfl) rfl rfl ?_
  refine qr_iload_n 2029 (qf_30 (by decide) rfl) rfl rfl ?_
  refine qr_iconst 2030 (qf_30 (by decide) rfl) rfl ?_
  refine qr_iadd 2031 (qf_30 (by decide) rfl) rfl ?_
  refine qy_v 1 rfl ?_
  refine qr_iaload 2032 (qf_30 (by decide) rfl) rfl (by omega) (by decide) rfl ?_
  refine qy_v (xs 1) rfl ?_
  refine qr_call 2035 109 19340 (qf_30 (by decide) rfl) rfl (Nat.le_of_ble_eq_true rfl) (Nat.le_of_ble_eq_true rfl) rfl rfl hm ?_
  rintro _ w2 rfl
  show qr_W (qe 6 xs vb) 100 qx_e0 lw_Q0 (2035, [(3, .int (qz 0)), (2, .ref 86), (1, .ref 16), (0, .ref 0)], [.int (qz y), .int (qz y)], w2, 109, 19340)
  refine qr_icmp_eq 2040 2038 (qf_30 (by decide) rfl) rfl rfl hy hy (fun _ => ?_) (fun h => absurd rfl h)
  exact lw_end
set_option maxHeartbeats 4000000 in
set_option maxRecDepth 20000 in
theorem lw_iter {xs : Nat → Int} {vb : Bool} {s g : Nat → Nat → Int} (hok : qo_ok s g) (rx : ∀ k, -2147483648 ≤ xs k ∧ xs k ≤ 2147483647) : qr_W (qe 6 xs vb) 100 qx_e0 lw_Q0 (27, [(3, .int (qz 0)), (2, .ref 86), (1, .ref 16), (0, .ref 0)], [], qw (qo_s s) (qo_r g) qo_k 82, 109, 19340) := by
  refine qr_aload_n 28 (qf_0 (by decide) rfl) rfl rfl ?_
  refine qr_iload_n 29 (qf_0 (by decide) rfl) rfl rfl ?_
  refine qr_iaload 30 (qf_0 (by decide) rfl) rfl (by omega) (by decide) rfl ?_
  refine qr_bipush 32 (qf_0 (by decide) rfl) (by decide) rfl ?_
  refine qr_iand 33 (qf_0 (by decide) rfl) rfl ?_
  refine qr_topI (fun v hv => ?_)
  have hr : -2147483648 ≤ v ∧ v ≤ 2147483647 := by rw [hv]; exact qz_and_r _ _
  have h : v = 0 ∨ v = 1 ∨ v = 2 ∨ v = 3 ∨ v = 4 ∨ v = 5 ∨ v = 6 ∨ v = 7 ∨ v = 8 ∨ v = 9 ∨ v = 10 ∨ v = 11 ∨ v = 12 ∨ v = 13 ∨ v = 14 ∨ v = 15 ∨ v = 16 ∨ v = 17 ∨ v = 18 ∨ v = 19 ∨ v = 20 ∨ v = 21 ∨ v = 22 ∨ v = 23 ∨ v = 24 ∨ v = 25 ∨ v = 26 ∨ v = 27 ∨ v = 28 ∨ v = 29 ∨ v = 30 ∨ v = 31 ∨ v = 32 ∨ v = 33 ∨ v = 34 ∨ v = 35 ∨ v = 36 ∨ v = 37 ∨ v = 38 ∨ v = 39 ∨ v = 40 ∨ (v < 0 ∨ 40 < v) := by omega
  rcases h with h | h | h | h | h | h | h | h | h | h | h | h | h | h | h | h | h | h | h | h | h | h | h | h | h | h | h | h | h | h | h | h | h | h | h | h | h | h | h | h | h | h
  · exact qr_tabIn 212 (qf_0 (by decide) rfl) hr (by omega) (by rw [h]; rfl) rfl (lw_c0 hok rx)
  · exact qr_tabIn 255 (qf_0 (by decide) rfl) hr (by omega) (by rw [h]; rfl) rfl (lw_c1 hok rx)
  · exact qr_tabIn 298 (qf_0 (by decide) rfl) hr (by omega) (by rw [h]; rfl) rfl (lw_c2 hok rx)
  · exact qr_tabIn 331 (qf_0 (by decide) rfl) hr (by omega) (by rw [h]; rfl) rfl (lw_c3 hok rx)
  · exact qr_tabIn 364 (qf_0 (by decide) rfl) hr (by omega) (by rw [h]; rfl) rfl (lw_c4 hok rx)
  · exact qr_tabIn 397 (qf_0 (by decide) rfl) hr (by omega) (by rw [h]; rfl) rfl (lw_c5 hok rx)
  · exact qr_tabIn 430 (qf_0 (by decide) rfl) hr (by omega) (by rw [h]; rfl) rfl (lw_c6 hok rx)
  · exact qr_tabIn 473 (qf_0 (by decide) rfl) hr (by omega) (by rw [h]; rfl) rfl (lw_c7 hok rx)
  · exact qr_tabIn 506 (qf_0 (by decide) rfl) hr (by omega) (by rw [h]; rfl) rfl (lw_c8 hok rx)
  · exact qr_tabIn 559 (qf_0 (by decide) rfl) hr (by omega) (by rw [h]; rfl) rfl (lw_c9 hok rx)
  · exact qr_tabIn 642 (qf_0 (by decide) rfl) hr (by omega) (by rw [h]; rfl) rfl (lw_c10 hok rx)
  · exact qr_tabIn 675 (qf_0 (by decide) rfl) hr (by omega) (by rw [h]; rfl) rfl (lw_c11 hok rx)
  · exact qr_tabIn 718 (qf_0 (by decide) rfl) hr (by omega) (by rw [h]; rfl) rfl (lw_c12 hok rx)
  · exact qr_tabIn 761 (qf_0 (by decide) rfl) hr (by omega) (by rw [h]; rfl) rfl (lw_c13 hok rx)
  · exact qr_tabIn 794 (qf_0 (by decide) rfl) hr (by omega) (by rw [h]; rfl) rfl (lw_c14 hok rx)
  · exact qr_tabIn 827 (qf_0 (by decide) rfl) hr (by omega) (by rw [h]; rfl) rfl (lw_c15 hok rx)
  · exact qr_tabIn 860 (qf_0 (by decide) rfl) hr (by omega) (by rw [h]; rfl) rfl (lw_c16 hok rx)
  · exact qr_tabIn 883 (qf_0 (by decide) rfl) hr (by omega) (by rw [h]; rfl) rfl (lw_c17 hok rx)
  · exact qr_tabIn 956 (qf_0 (by decide) rfl) hr (by omega) (by rw [h]; rfl) rfl (lw_c18 hok rx)
  · exact qr_tabIn 1029 (qf_0 (by decide) rfl) hr (by omega) (by rw [h]; rfl) rfl (lw_c19 hok rx)
  · exact qr_tabIn 1062 (qf_0 (by decide) rfl) hr (by omega) (by rw [h]; rfl) rfl (lw_c20 hok rx)
  · exact qr_tabIn 1166 (qf_0 (by decide) rfl) hr (by omega) (by rw [h]; rfl) rfl (lw_c21 hok rx)
  · exact qr_tabIn 1240 (qf_0 (by decide) rfl) hr (by omega) (by rw [h]; rfl) rfl (lw_c22 hok rx)
  · exact qr_tabIn 1314 (qf_0 (by decide) rfl) hr (by omega) (by rw [h]; rfl) rfl (lw_c23 hok rx)
  · exact qr_tabIn 1347 (qf_0 (by decide) rfl) hr (by omega) (by rw [h]; rfl) rfl (lw_c24 hok rx)
  · exact qr_tabIn 1420 (qf_0 (by decide) rfl) hr (by omega) (by rw [h]; rfl) rfl (lw_c25 hok rx)
  · exact qr_tabIn 1503 (qf_0 (by decide) rfl) hr (by omega) (by rw [h]; rfl) rfl (lw_c26 hok rx)
  · exact qr_tabIn 1526 (qf_0 (by decide) rfl) hr (by omega) (by rw [h]; rfl) rfl (lw_c27 hok rx)
  · exact qr_tabIn 1540 (qf_0 (by decide) rfl) hr (by omega) (by rw [h]; rfl) rfl (lw_c28 hok rx)
  · exact qr_tabIn 1603 (qf_0 (by decide) rfl) hr (by omega) (by rw [h]; rfl) rfl (lw_c29 hok rx)
  · exact qr_tabIn 1646 (qf_0 (by decide) rfl) hr (by omega) (by rw [h]; rfl) rfl (lw_c30 hok rx)
  · exact qr_tabIn 1659 (qf_0 (by decide) rfl) hr (by omega) (by rw [h]; rfl) rfl (lw_c31 hok rx)
  · exact qr_tabIn 1672 (qf_0 (by decide) rfl) hr (by omega) (by rw [h]; rfl) rfl (lw_c32 hok rx)
  · exact qr_tabIn 1715 (qf_0 (by decide) rfl) hr (by omega) (by rw [h]; rfl) rfl (lw_c33 hok rx)
  · exact qr_tabIn 1738 (qf_0 (by decide) rfl) hr (by omega) (by rw [h]; rfl) rfl (lw_c34 hok rx)
  · exact qr_tabIn 1771 (qf_0 (by decide) rfl) hr (by omega) (by rw [h]; rfl) rfl (lw_c35 hok rx)
  · exact qr_tabIn 1814 (qf_0 (by decide) rfl) hr (by omega) (by rw [h]; rfl) rfl (lw_c36 hok rx)
  · exact qr_tabIn 1887 (qf_0 (by decide) rfl) hr (by omega) (by rw [h]; rfl) rfl (lw_c37 hok rx)
  · exact qr_tabIn 1921 (qf_0 (by decide) rfl) hr (by omega) (by rw [h]; rfl) rfl (lw_c38 hok rx)
  · exact qr_tabIn 1984 (qf_0 (by decide) rfl) hr (by omega) (by rw [h]; rfl) rfl (lw_c39 hok rx)
  · exact qr_tabIn 2017 (qf_0 (by decide) rfl) hr (by omega) (by rw [h]; rfl) rfl (lw_c40 hok rx)
  · exact qr_tabOut 2040 (qf_0 (by decide) rfl) hr (by omega) rfl lw_end
set_option maxHeartbeats 4000000 in
set_option maxRecDepth 20000 in
theorem lw_small {xs : Nat → Int} {vb : Bool} {L : Nat} (hL : L ≤ 6) (rx : ∀ k, -2147483648 ≤ xs k ∧ xs k ≤ 2147483647) : qr_W (qe L xs vb) 100 qx_e0 lw_Q0 (0, [(0, .ref 0)], [], [], 0, 0) := by
  refine qr_new [.inr (0, [.null, .null, .null, .null, .null, .null, .null, .null, .null, .null, .null, .null, .null, .null, .null, .int (qz 0)])] 3 1 16 (qf_0 (by decide) rfl) rfl (Nat.le_of_ble_eq_true rfl) (Nat.le_of_ble_eq_true rfl) rfl rfl rfl 16 rfl rfl ?_
  refine qr_dup 4 (qf_0 (by decide) rfl) rfl rfl ?_
  refine qr_call 7 70 11092 (qf_0 (by decide) rfl) rfl (Nat.le_of_ble_eq_true rfl) (Nat.le_of_ble_eq_true rfl) rfl rfl (si_Roof (d := 42)) ?_
  rintro _ _ ⟨rfl, s, g, rfl, hok⟩
  show qr_W (qe L xs vb) 100 qx_e0 lw_Q0 (7, [(0, .ref 0)], [.ref 16], (qw (qo_s s) (qo_r g) qo_k 82).take 70, 70, 11092)
  refine qr_astore_n [(1, .ref 16), (0, .ref 0)] 8 (qf_0 (by decide) rfl) (by decide) rfl rfl ?_
  refine qr_new ((qw (qo_s s) (qo_r g) qo_k 82).take 70 ++ [.inr (12, [.null, .null, .null, .null, .int (qz 0), .int (qz 0), .int (qz 0), .null, .null, .null, .long (ql 0), .int (qz 0), .null, .null, .null, .int (qz 0), .int (qz 0), .null, .null, .null, .null, .null, .long (ql 0), .int (qz 0), .int (qz 0), .null, .null, .null, .null, .long (ql 0), .int (qz 0), .null, .int (qz 0), .null, .null, .int (qz 0), .int (qz 0), .int (qz 0), .int (qz 0), .int (qz 0), .null, .int (qz 0), .null, .int (qz 0), .null, .null, .null, .null, .null, .null, .int (qz 0), .long (ql 0), .null, .null, .null, .null, .int (qz 0), .int (qz 0), .int (qz 0), .null, .null, .null, .null])]) 11 71 11155 (qf_0 (by decide) rfl) rfl (Nat.le_of_ble_eq_true rfl) (Nat.le_of_ble_eq_true rfl) rfl rfl rfl 86 rfl rfl ?_
  refine qr_dup 12 (qf_0 (by decide) rfl) rfl rfl ?_
  refine qr_call 15 109 19340 (qf_0 (by decide) rfl) rfl (Nat.le_of_ble_eq_true rfl) (Nat.le_of_ble_eq_true rfl) rfl rfl (si_Model (d := 99) (u := (qw (qo_s s) (qo_r g) qo_k 82).take 70) (a := 86) rfl) ?_
  rintro _ _ ⟨rfl, rfl⟩
  show qr_W (qe L xs vb) 100 qx_e0 lw_Q0 (15, [(1, .ref 16), (0, .ref 0)], [.ref 86], _, 109, 19340)
  refine qy_w (qw (qo_s s) (qo_r g) qo_k 82) rfl ?_
  refine qr_astore_n [(2, .ref 86), (1, .ref 16), (0, .ref 0)] 16 (qf_0 (by decide) rfl) (by decide) rfl rfl ?_
  refine qr_iconst 17 (qf_0 (by decide) rfl) rfl ?_
  refine qr_istore_n [(3, .int (qz 0)), (2, .ref 86), (1, .ref 16), (0, .ref 0)] 18 (qf_0 (by decide) rfl) (by decide) rfl rfl ?_
  refine qr_iload_n 19 (qf_0 (by decide) rfl) rfl rfl ?_
  refine qr_aload_n 20 (qf_0 (by decide) rfl) rfl rfl ?_
  refine qr_alen 21 (qf_0 (by decide) rfl) rfl (Or.inl (by decide)) rfl ?_
  refine qr_bipush 23 (qf_0 (by decide) rfl) (by decide) rfl ?_
  refine qr_isub 24 (qf_0 (by decide) rfl) rfl ?_
  refine qr_icmp_gt 2046 27 (qf_0 (by decide) rfl) rfl rfl (by omega) (by omega) (fun _ => ?_) (fun h => ?_)
  · skip
    refine qr_iconst 2047 (qf_30 (by decide) rfl) rfl ?_
    refine qr_retZ (qf_30 (by decide) rfl) rfl (by omega) (Nat.le_of_ble_eq_true rfl) (Nat.le_of_ble_eq_true rfl) ?_
    exact rfl
  · obtain rfl : L = 6 := by omega
    exact lw_iter hok rx
