theorem e_A_beg {Q : q_R} {M : q_M} {a0 : Nat} {a1 : Int32} : q_Run 58 [.ref a0, .int a1] M Q = q_g 58 none Q 0 [some (.ref a0), some (.int a1), none] [] M := q_entry (Nat.le_of_ble_eq_true rfl) rfl
theorem d58_0 : decode (q_code 58) 0 = .ok (.iload_n 1, 1) := by decide +kernel
theorem gA_beg_0 {Q : q_R} {M : q_M} {r : List Value} {a0 : Nat} {a1 : Int32} {a2 : Option Value} : q_g 58 none Q 0 [some (.ref a0), some (.int a1), a2] (r) M = q_g 58 none Q 1 [some (.ref a0), some (.int a1), a2] (.int a1 :: r) M := r_iload_n rfl d58_0
theorem d58_1 : decode (q_code 58) 1 = .ok (.invokestatic 88, 3) := by decide +kernel
theorem gA_beg_1 {Q : q_R} {M : q_M} {a0 : Nat} {a1 : Int32} {a2 : Option Value} {s0 : Int32} : q_g 58 none Q 1 [some (.ref a0), some (.int a1), a2] ([.int s0]) M = q_Run 66 [.int s0] M (fun v M' => q_g 58 none Q 4 [some (.ref a0), some (.int a1), a2] (v.toList ++ []) M') := r_call_static (k := 1) (by decide +kernel) (by decide +kernel) (by decide +kernel) (Nat.le_of_ble_eq_true rfl) (Nat.le_of_ble_eq_true rfl) rfl rfl d58_1
theorem d58_4 : decode (q_code 58) 4 = .ok (.ifCond .eq 10, 3) := by decide +kernel
theorem gA_beg_4 {Q : q_R} {M : q_M} {r : List Value} {a0 : Nat} {a1 : Int32} {a2 : Option Value} {s0 : Int32} : q_g 58 none Q 4 [some (.ref a0), some (.int a1), a2] (.int s0 :: r) M = (if s0 = 0 then q_g 58 none Q 14 [some (.ref a0), some (.int a1), a2] (r) M else q_g 58 none Q 7 [some (.ref a0), some (.int a1), a2] (r) M) := r_if_eq (by decide) (by decide) d58_4
theorem d58_7 : decode (q_code 58) 7 = .ok (.aload_n 0, 1) := by decide +kernel
theorem gA_beg_7 {Q : q_R} {M : q_M} {r : List Value} {a0 : Nat} {a1 : Int32} {a2 : Option Value} : q_g 58 none Q 7 [some (.ref a0), some (.int a1), a2] (r) M = q_g 58 none Q 8 [some (.ref a0), some (.int a1), a2] (.ref a0 :: r) M := r_aload_n rfl d58_7
theorem d58_8 : decode (q_code 58) 8 = .ok (.bipush (-2), 2) := by decide +kernel
theorem gA_beg_8 {Q : q_R} {M : q_M} {r : List Value} {a0 : Nat} {a1 : Int32} {a2 : Option Value} : q_g 58 none Q 8 [some (.ref a0), some (.int a1), a2] (r) M = q_g 58 none Q 10 [some (.ref a0), some (.int a1), a2] (.int (-2) :: r) M := r_bipush (by decide) d58_8
theorem d58_10 : decode (q_code 58) 10 = .ok (.invokevirtual 51, 3) := by decide +kernel
theorem gA_beg_10 {Q : q_R} {M : q_M} {a0 : Nat} {a1 : Int32} {a2 : Option Value} {s0 : Int32} {s1 : Nat} : q_g 58 none Q 10 [some (.ref a0), some (.int a1), a2] ([.int s0, .ref s1]) M = (q_isC 3 s1 = true ∧ q_Run 79 [.ref s1, .int s0] M (fun v M' => q_g 58 none Q 13 [some (.ref a0), some (.int a1), a2] (v.toList ++ []) M')) := r_call_virtual (k := 2) (by decide +kernel) (by decide +kernel) (Nat.le_of_ble_eq_true rfl) (Nat.le_of_ble_eq_true rfl) rfl rfl d58_10
theorem d58_13 : decode (q_code 58) 13 = .ok (.ireturn, 1) := by decide +kernel
theorem gA_beg_13 {Q : q_R} {M : q_M} {a0 : Nat} {a1 : Int32} {a2 : Option Value} {s0 : Int32} : q_g 58 none Q 13 [some (.ref a0), some (.int a1), a2] ([.int s0]) M = Q (some (.int s0)) M := r_iret (r := []) (by decide +kernel) d58_13
theorem d58_14 : decode (q_code 58) 14 = .ok (.aload_n 0, 1) := by decide +kernel
theorem gA_beg_14 {Q : q_R} {M : q_M} {r : List Value} {a0 : Nat} {a1 : Int32} {a2 : Option Value} : q_g 58 none Q 14 [some (.ref a0), some (.int a1), a2] (r) M = q_g 58 none Q 15 [some (.ref a0), some (.int a1), a2] (.ref a0 :: r) M := r_aload_n rfl d58_14
theorem d58_15 : decode (q_code 58) 15 = .ok (.getfield 10, 3) := by decide +kernel
theorem gA_beg_15 {Q : q_R} {M : q_M} {r : List Value} {a0 : Nat} {a1 : Int32} {a2 : Option Value} {s0 : Nat} : q_g 58 none Q 15 [some (.ref a0), some (.int a1), a2] (.ref s0 :: r) M = (q_isC 3 s0 = true ∧ q_g 58 none Q 18 [some (.ref a0), some (.int a1), a2] (.ref (q_rf s0 0) :: r) M) := r_getR (by decide +kernel) (by decide +kernel) d58_15
theorem d58_18 : decode (q_code 58) 18 = .ok (.invokestatic 159, 3) := by decide +kernel
theorem gA_beg_18 {Q : q_R} {M : q_M} {a0 : Nat} {a1 : Int32} {a2 : Option Value} {s0 : Nat} : q_g 58 none Q 18 [some (.ref a0), some (.int a1), a2] ([.ref s0]) M = q_Run 45 [.ref s0] M (fun v M' => q_g 58 none Q 21 [some (.ref a0), some (.int a1), a2] (v.toList ++ []) M') := r_call_static (k := 1) (by decide +kernel) (by decide +kernel) (by decide +kernel) (Nat.le_of_ble_eq_true rfl) (Nat.le_of_ble_eq_true rfl) rfl rfl d58_18
theorem d58_21 : decode (q_code 58) 21 = .ok (.istore_n 2, 1) := by decide +kernel
theorem gA_beg_21 {Q : q_R} {M : q_M} {r : List Value} {a0 : Nat} {a1 : Int32} {a2 : Option Value} {s0 : Int32} : q_g 58 none Q 21 [some (.ref a0), some (.int a1), a2] (.int s0 :: r) M = q_g 58 none Q 22 [some (.ref a0), some (.int a1), some (.int s0)] (r) M := r_istore_n (Nat.le_of_ble_eq_true rfl) d58_21
theorem d58_22 : decode (q_code 58) 22 = .ok (.iload_n 1, 1) := by decide +kernel
theorem gA_beg_22 {Q : q_R} {M : q_M} {r : List Value} {a0 : Nat} {a1 : Int32} {a2 : Int32} : q_g 58 none Q 22 [some (.ref a0), some (.int a1), some (.int a2)] (r) M = q_g 58 none Q 23 [some (.ref a0), some (.int a1), some (.int a2)] (.int a1 :: r) M := r_iload_n rfl d58_22
theorem d58_23 : decode (q_code 58) 23 = .ok (.ifCond .ne 14, 3) := by decide +kernel
theorem gA_beg_23 {Q : q_R} {M : q_M} {r : List Value} {a0 : Nat} {a1 : Int32} {a2 : Int32} {s0 : Int32} : q_g 58 none Q 23 [some (.ref a0), some (.int a1), some (.int a2)] (.int s0 :: r) M = (if ¬ s0 = 0 then q_g 58 none Q 37 [some (.ref a0), some (.int a1), some (.int a2)] (r) M else q_g 58 none Q 26 [some (.ref a0), some (.int a1), some (.int a2)] (r) M) := r_if_ne (by decide) (by decide) d58_23
theorem d58_26 : decode (q_code 58) 26 = .ok (.aload_n 0, 1) := by decide +kernel
theorem gA_beg_26 {Q : q_R} {M : q_M} {r : List Value} {a0 : Nat} {a1 : Int32} {a2 : Int32} : q_g 58 none Q 26 [some (.ref a0), some (.int a1), some (.int a2)] (r) M = q_g 58 none Q 27 [some (.ref a0), some (.int a1), some (.int a2)] (.ref a0 :: r) M := r_aload_n rfl d58_26
theorem d58_27 : decode (q_code 58) 27 = .ok (.getfield 10, 3) := by decide +kernel
theorem gA_beg_27 {Q : q_R} {M : q_M} {r : List Value} {a0 : Nat} {a1 : Int32} {a2 : Int32} {s0 : Nat} : q_g 58 none Q 27 [some (.ref a0), some (.int a1), some (.int a2)] (.ref s0 :: r) M = (q_isC 3 s0 = true ∧ q_g 58 none Q 30 [some (.ref a0), some (.int a1), some (.int a2)] (.ref (q_rf s0 0) :: r) M) := r_getR (by decide +kernel) (by decide +kernel) d58_27
theorem d58_30 : decode (q_code 58) 30 = .ok (.iload_n 2, 1) := by decide +kernel
theorem gA_beg_30 {Q : q_R} {M : q_M} {r : List Value} {a0 : Nat} {a1 : Int32} {a2 : Int32} : q_g 58 none Q 30 [some (.ref a0), some (.int a1), some (.int a2)] (r) M = q_g 58 none Q 31 [some (.ref a0), some (.int a1), some (.int a2)] (.int a2 :: r) M := r_iload_n rfl d58_30
theorem d58_31 : decode (q_code 58) 31 = .ok (.invokevirtual 162, 3) := by decide +kernel
theorem gA_beg_31 {Q : q_R} {M : q_M} {a0 : Nat} {a1 : Int32} {a2 : Int32} {s0 : Int32} {s1 : Nat} : q_g 58 none Q 31 [some (.ref a0), some (.int a1), some (.int a2)] ([.int s0, .ref s1]) M = (q_isC 0 s1 = true ∧ q_Run 8 [.ref s1, .int s0] M (fun v M' => q_g 58 none Q 34 [some (.ref a0), some (.int a1), some (.int a2)] (v.toList ++ []) M')) := r_call_virtual (k := 2) (by decide +kernel) (by decide +kernel) (Nat.le_of_ble_eq_true rfl) (Nat.le_of_ble_eq_true rfl) rfl rfl d58_31
theorem d58_34 : decode (q_code 58) 34 = .ok (.goto 4, 3) := by decide +kernel
theorem gA_beg_34 {Q : q_R} {M : q_M} {r : List Value} {a0 : Nat} {a1 : Int32} {a2 : Int32} : q_g 58 none Q 34 [some (.ref a0), some (.int a1), some (.int a2)] (r) M = q_g 58 none Q 38 [some (.ref a0), some (.int a1), some (.int a2)] (r) M := r_goto (by decide) (by decide) d58_34
theorem d58_37 : decode (q_code 58) 37 = .ok (.iload_n 2, 1) := by decide +kernel
theorem gA_beg_37 {Q : q_R} {M : q_M} {r : List Value} {a0 : Nat} {a1 : Int32} {a2 : Int32} : q_g 58 none Q 37 [some (.ref a0), some (.int a1), some (.int a2)] (r) M = q_g 58 none Q 38 [some (.ref a0), some (.int a1), some (.int a2)] (.int a2 :: r) M := r_iload_n rfl d58_37
theorem d58_38 : decode (q_code 58) 38 = .ok (.ireturn, 1) := by decide +kernel
theorem gA_beg_38 {Q : q_R} {M : q_M} {a0 : Nat} {a1 : Int32} {a2 : Int32} {s0 : Int32} : q_g 58 none Q 38 [some (.ref a0), some (.int a1), some (.int a2)] ([.int s0]) M = Q (some (.int s0)) M := r_iret (r := []) (by decide +kernel) d58_38
theorem e_A_count {Q : q_R} {M : q_M} {a0 : Nat} {a1 : Int32} : q_Run 59 [.ref a0, .int a1] M Q = q_g 59 none Q 0 [some (.ref a0), some (.int a1)] [] M := q_entry (Nat.le_of_ble_eq_true rfl) rfl
theorem d59_0 : decode (q_code 59) 0 = .ok (.iload_n 1, 1) := by decide +kernel
theorem gA_count_0 {Q : q_R} {M : q_M} {r : List Value} {a0 : Nat} {a1 : Int32} : q_g 59 none Q 0 [some (.ref a0), some (.int a1)] (r) M = q_g 59 none Q 1 [some (.ref a0), some (.int a1)] (.int a1 :: r) M := r_iload_n rfl d59_0
theorem d59_1 : decode (q_code 59) 1 = .ok (.tableswitch 109 0 6 #[43, 51, 62, 70, 81, 96, 101], 43) := by decide +kernel
theorem gA_count_1 {Q : q_R} {M : q_M} {r : List Value} {a0 : Nat} {a1 : Int32} {s0 : Int32} : q_g 59 none Q 1 [some (.ref a0), some (.int a1)] (.int s0 :: r) M = (if s0 = 0 then q_g 59 none Q 44 [some (.ref a0), some (.int a1)] (r) M else if s0 = 1 then q_g 59 none Q 52 [some (.ref a0), some (.int a1)] (r) M else if s0 = 2 then q_g 59 none Q 63 [some (.ref a0), some (.int a1)] (r) M else if s0 = 3 then q_g 59 none Q 71 [some (.ref a0), some (.int a1)] (r) M else if s0 = 4 then q_g 59 none Q 82 [some (.ref a0), some (.int a1)] (r) M else if s0 = 5 then q_g 59 none Q 97 [some (.ref a0), some (.int a1)] (r) M else if s0 = 6 then q_g 59 none Q 102 [some (.ref a0), some (.int a1)] (r) M else q_g 59 none Q 110 [some (.ref a0), some (.int a1)] (r) M) := by
  by_cases h0 : s0 = 0
  · rw [if_pos h0]
    subst h0
    exact r_table (off := 43) (by decide) (by decide) (by decide) d59_1
  rw [if_neg h0]
  by_cases h1 : s0 = 1
  · rw [if_pos h1]
    subst h1
    exact r_table (off := 51) (by decide) (by decide) (by decide) d59_1
  rw [if_neg h1]
  by_cases h2 : s0 = 2
  · rw [if_pos h2]
    subst h2
    exact r_table (off := 62) (by decide) (by decide) (by decide) d59_1
  rw [if_neg h2]
  by_cases h3 : s0 = 3
  · rw [if_pos h3]
    subst h3
    exact r_table (off := 70) (by decide) (by decide) (by decide) d59_1
  rw [if_neg h3]
  by_cases h4 : s0 = 4
  · rw [if_pos h4]
    subst h4
    exact r_table (off := 81) (by decide) (by decide) (by decide) d59_1
  rw [if_neg h4]
  by_cases h5 : s0 = 5
  · rw [if_pos h5]
    subst h5
    exact r_table (off := 96) (by decide) (by decide) (by decide) d59_1
  rw [if_neg h5]
  by_cases h6 : s0 = 6
  · rw [if_pos h6]
    subst h6
    exact r_table (off := 101) (by decide) (by decide) (by decide) d59_1
  rw [if_neg h6]
  have e0 := lv_neT h0 (show (0 : Int32).toInt = 0 by decide)
  have e1 := lv_neT h1 (show (1 : Int32).toInt = 1 by decide)
  have e2 := lv_neT h2 (show (2 : Int32).toInt = 2 by decide)
  have e3 := lv_neT h3 (show (3 : Int32).toInt = 3 by decide)
  have e4 := lv_neT h4 (show (4 : Int32).toInt = 4 by decide)
  have e5 := lv_neT h5 (show (5 : Int32).toInt = 5 by decide)
  have e6 := lv_neT h6 (show (6 : Int32).toInt = 6 by decide)
  exact r_table (off := 109) (by unfold q_sw; rw [if_pos (by omega)]) (by decide) (by decide) d59_1
theorem d59_44 : decode (q_code 59) 44 = .ok (.aload_n 0, 1) := by decide +kernel
theorem gA_count_44 {Q : q_R} {M : q_M} {r : List Value} {a0 : Nat} {a1 : Int32} : q_g 59 none Q 44 [some (.ref a0), some (.int a1)] (r) M = q_g 59 none Q 45 [some (.ref a0), some (.int a1)] (.ref a0 :: r) M := r_aload_n rfl d59_44
theorem d59_45 : decode (q_code 59) 45 = .ok (.getfield 10, 3) := by decide +kernel
theorem gA_count_45 {Q : q_R} {M : q_M} {r : List Value} {a0 : Nat} {a1 : Int32} {s0 : Nat} : q_g 59 none Q 45 [some (.ref a0), some (.int a1)] (.ref s0 :: r) M = (q_isC 3 s0 = true ∧ q_g 59 none Q 48 [some (.ref a0), some (.int a1)] (.ref (q_rf s0 0) :: r) M) := r_getR (by decide +kernel) (by decide +kernel) d59_45
theorem d59_48 : decode (q_code 59) 48 = .ok (.getfield 224, 3) := by decide +kernel
theorem gA_count_48 {Q : q_R} {M : q_M} {r : List Value} {a0 : Nat} {a1 : Int32} {s0 : Nat} : q_g 59 none Q 48 [some (.ref a0), some (.int a1)] (.ref s0 :: r) M = (q_isC 0 s0 = true ∧ q_g 59 none Q 51 [some (.ref a0), some (.int a1)] (.int (M s0 6) :: r) M) := r_getI (by decide +kernel) (by decide +kernel) d59_48
theorem d59_51 : decode (q_code 59) 51 = .ok (.ireturn, 1) := by decide +kernel
theorem gA_count_51 {Q : q_R} {M : q_M} {a0 : Nat} {a1 : Int32} {s0 : Int32} : q_g 59 none Q 51 [some (.ref a0), some (.int a1)] ([.int s0]) M = Q (some (.int s0)) M := r_iret (r := []) (by decide +kernel) d59_51
theorem d59_52 : decode (q_code 59) 52 = .ok (.aload_n 0, 1) := by decide +kernel
theorem gA_count_52 {Q : q_R} {M : q_M} {r : List Value} {a0 : Nat} {a1 : Int32} : q_g 59 none Q 52 [some (.ref a0), some (.int a1)] (r) M = q_g 59 none Q 53 [some (.ref a0), some (.int a1)] (.ref a0 :: r) M := r_aload_n rfl d59_52
theorem d59_53 : decode (q_code 59) 53 = .ok (.getfield 10, 3) := by decide +kernel
theorem gA_count_53 {Q : q_R} {M : q_M} {r : List Value} {a0 : Nat} {a1 : Int32} {s0 : Nat} : q_g 59 none Q 53 [some (.ref a0), some (.int a1)] (.ref s0 :: r) M = (q_isC 3 s0 = true ∧ q_g 59 none Q 56 [some (.ref a0), some (.int a1)] (.ref (q_rf s0 0) :: r) M) := r_getR (by decide +kernel) (by decide +kernel) d59_53
theorem d59_56 : decode (q_code 59) 56 = .ok (.getfield 100, 3) := by decide +kernel
theorem gA_count_56 {Q : q_R} {M : q_M} {r : List Value} {a0 : Nat} {a1 : Int32} {s0 : Nat} : q_g 59 none Q 56 [some (.ref a0), some (.int a1)] (.ref s0 :: r) M = (q_isC 0 s0 = true ∧ q_g 59 none Q 59 [some (.ref a0), some (.int a1)] (.int (M s0 7) :: r) M) := r_getI (by decide +kernel) (by decide +kernel) d59_56
theorem d59_59 : decode (q_code 59) 59 = .ok (.invokestatic 184, 3) := by decide +kernel
theorem gA_count_59 {Q : q_R} {M : q_M} {a0 : Nat} {a1 : Int32} {s0 : Int32} : q_g 59 none Q 59 [some (.ref a0), some (.int a1)] ([.int s0]) M = q_Run 156 [.int s0] M (fun v M' => q_g 59 none Q 62 [some (.ref a0), some (.int a1)] (v.toList ++ []) M') := r_call_static (k := 1) (by decide +kernel) (by decide +kernel) (by decide +kernel) (Nat.le_of_ble_eq_true rfl) (Nat.le_of_ble_eq_true rfl) rfl rfl d59_59
theorem d59_62 : decode (q_code 59) 62 = .ok (.ireturn, 1) := by decide +kernel
theorem gA_count_62 {Q : q_R} {M : q_M} {a0 : Nat} {a1 : Int32} {s0 : Int32} : q_g 59 none Q 62 [some (.ref a0), some (.int a1)] ([.int s0]) M = Q (some (.int s0)) M := r_iret (r := []) (by decide +kernel) d59_62
theorem d59_63 : decode (q_code 59) 63 = .ok (.aload_n 0, 1) := by decide +kernel
theorem gA_count_63 {Q : q_R} {M : q_M} {r : List Value} {a0 : Nat} {a1 : Int32} : q_g 59 none Q 63 [some (.ref a0), some (.int a1)] (r) M = q_g 59 none Q 64 [some (.ref a0), some (.int a1)] (.ref a0 :: r) M := r_aload_n rfl d59_63
theorem d59_64 : decode (q_code 59) 64 = .ok (.getfield 10, 3) := by decide +kernel
theorem gA_count_64 {Q : q_R} {M : q_M} {r : List Value} {a0 : Nat} {a1 : Int32} {s0 : Nat} : q_g 59 none Q 64 [some (.ref a0), some (.int a1)] (.ref s0 :: r) M = (q_isC 3 s0 = true ∧ q_g 59 none Q 67 [some (.ref a0), some (.int a1)] (.ref (q_rf s0 0) :: r) M) := r_getR (by decide +kernel) (by decide +kernel) d59_64
theorem d59_67 : decode (q_code 59) 67 = .ok (.getfield 107, 3) := by decide +kernel
theorem gA_count_67 {Q : q_R} {M : q_M} {r : List Value} {a0 : Nat} {a1 : Int32} {s0 : Nat} : q_g 59 none Q 67 [some (.ref a0), some (.int a1)] (.ref s0 :: r) M = (q_isC 0 s0 = true ∧ q_g 59 none Q 70 [some (.ref a0), some (.int a1)] (.int (M s0 8) :: r) M) := r_getI (by decide +kernel) (by decide +kernel) d59_67
theorem d59_70 : decode (q_code 59) 70 = .ok (.ireturn, 1) := by decide +kernel
theorem gA_count_70 {Q : q_R} {M : q_M} {a0 : Nat} {a1 : Int32} {s0 : Int32} : q_g 59 none Q 70 [some (.ref a0), some (.int a1)] ([.int s0]) M = Q (some (.int s0)) M := r_iret (r := []) (by decide +kernel) d59_70
theorem d59_71 : decode (q_code 59) 71 = .ok (.aload_n 0, 1) := by decide +kernel
theorem gA_count_71 {Q : q_R} {M : q_M} {r : List Value} {a0 : Nat} {a1 : Int32} : q_g 59 none Q 71 [some (.ref a0), some (.int a1)] (r) M = q_g 59 none Q 72 [some (.ref a0), some (.int a1)] (.ref a0 :: r) M := r_aload_n rfl d59_71
theorem d59_72 : decode (q_code 59) 72 = .ok (.getfield 10, 3) := by decide +kernel
theorem gA_count_72 {Q : q_R} {M : q_M} {r : List Value} {a0 : Nat} {a1 : Int32} {s0 : Nat} : q_g 59 none Q 72 [some (.ref a0), some (.int a1)] (.ref s0 :: r) M = (q_isC 3 s0 = true ∧ q_g 59 none Q 75 [some (.ref a0), some (.int a1)] (.ref (q_rf s0 0) :: r) M) := r_getR (by decide +kernel) (by decide +kernel) d59_72
theorem d59_75 : decode (q_code 59) 75 = .ok (.invokevirtual 227, 3) := by decide +kernel
theorem gA_count_75 {Q : q_R} {M : q_M} {a0 : Nat} {a1 : Int32} {s0 : Nat} : q_g 59 none Q 75 [some (.ref a0), some (.int a1)] ([.ref s0]) M = (q_isC 0 s0 = true ∧ q_Run 4 [.ref s0] M (fun v M' => q_g 59 none Q 78 [some (.ref a0), some (.int a1)] (v.toList ++ []) M')) := r_call_virtual (k := 1) (by decide +kernel) (by decide +kernel) (Nat.le_of_ble_eq_true rfl) (Nat.le_of_ble_eq_true rfl) rfl rfl d59_75
theorem d59_78 : decode (q_code 59) 78 = .ok (.invokestatic 184, 3) := by decide +kernel
theorem gA_count_78 {Q : q_R} {M : q_M} {a0 : Nat} {a1 : Int32} {s0 : Int32} : q_g 59 none Q 78 [some (.ref a0), some (.int a1)] ([.int s0]) M = q_Run 156 [.int s0] M (fun v M' => q_g 59 none Q 81 [some (.ref a0), some (.int a1)] (v.toList ++ []) M') := r_call_static (k := 1) (by decide +kernel) (by decide +kernel) (by decide +kernel) (Nat.le_of_ble_eq_true rfl) (Nat.le_of_ble_eq_true rfl) rfl rfl d59_78
theorem d59_81 : decode (q_code 59) 81 = .ok (.ireturn, 1) := by decide +kernel
theorem gA_count_81 {Q : q_R} {M : q_M} {a0 : Nat} {a1 : Int32} {s0 : Int32} : q_g 59 none Q 81 [some (.ref a0), some (.int a1)] ([.int s0]) M = Q (some (.int s0)) M := r_iret (r := []) (by decide +kernel) d59_81
theorem d59_82 : decode (q_code 59) 82 = .ok (.aload_n 0, 1) := by decide +kernel
theorem gA_count_82 {Q : q_R} {M : q_M} {r : List Value} {a0 : Nat} {a1 : Int32} : q_g 59 none Q 82 [some (.ref a0), some (.int a1)] (r) M = q_g 59 none Q 83 [some (.ref a0), some (.int a1)] (.ref a0 :: r) M := r_aload_n rfl d59_82
theorem d59_83 : decode (q_code 59) 83 = .ok (.getfield 10, 3) := by decide +kernel
theorem gA_count_83 {Q : q_R} {M : q_M} {r : List Value} {a0 : Nat} {a1 : Int32} {s0 : Nat} : q_g 59 none Q 83 [some (.ref a0), some (.int a1)] (.ref s0 :: r) M = (q_isC 3 s0 = true ∧ q_g 59 none Q 86 [some (.ref a0), some (.int a1)] (.ref (q_rf s0 0) :: r) M) := r_getR (by decide +kernel) (by decide +kernel) d59_83
theorem d59_86 : decode (q_code 59) 86 = .ok (.aload_n 0, 1) := by decide +kernel
theorem gA_count_86 {Q : q_R} {M : q_M} {r : List Value} {a0 : Nat} {a1 : Int32} : q_g 59 none Q 86 [some (.ref a0), some (.int a1)] (r) M = q_g 59 none Q 87 [some (.ref a0), some (.int a1)] (.ref a0 :: r) M := r_aload_n rfl d59_86
theorem d59_87 : decode (q_code 59) 87 = .ok (.getfield 10, 3) := by decide +kernel
theorem gA_count_87 {Q : q_R} {M : q_M} {r : List Value} {a0 : Nat} {a1 : Int32} {s0 : Nat} : q_g 59 none Q 87 [some (.ref a0), some (.int a1)] (.ref s0 :: r) M = (q_isC 3 s0 = true ∧ q_g 59 none Q 90 [some (.ref a0), some (.int a1)] (.ref (q_rf s0 0) :: r) M) := r_getR (by decide +kernel) (by decide +kernel) d59_87
theorem d59_90 : decode (q_code 59) 90 = .ok (.invokevirtual 230, 3) := by decide +kernel
theorem gA_count_90 {Q : q_R} {M : q_M} {a0 : Nat} {a1 : Int32} {s0 : Nat} {s1 : Nat} : q_g 59 none Q 90 [some (.ref a0), some (.int a1)] ([.ref s0, .ref s1]) M = (q_isC 0 s0 = true ∧ q_Run 9 [.ref s0] M (fun v M' => q_g 59 none Q 93 [some (.ref a0), some (.int a1)] (v.toList ++ [.ref s1]) M')) := r_call_virtual (k := 1) (by decide +kernel) (by decide +kernel) (Nat.le_of_ble_eq_true rfl) (Nat.le_of_ble_eq_true rfl) rfl rfl d59_90
theorem d59_93 : decode (q_code 59) 93 = .ok (.invokevirtual 162, 3) := by decide +kernel
theorem gA_count_93 {Q : q_R} {M : q_M} {a0 : Nat} {a1 : Int32} {s0 : Int32} {s1 : Nat} : q_g 59 none Q 93 [some (.ref a0), some (.int a1)] ([.int s0, .ref s1]) M = (q_isC 0 s1 = true ∧ q_Run 8 [.ref s1, .int s0] M (fun v M' => q_g 59 none Q 96 [some (.ref a0), some (.int a1)] (v.toList ++ []) M')) := r_call_virtual (k := 2) (by decide +kernel) (by decide +kernel) (Nat.le_of_ble_eq_true rfl) (Nat.le_of_ble_eq_true rfl) rfl rfl d59_93
theorem d59_96 : decode (q_code 59) 96 = .ok (.ireturn, 1) := by decide +kernel
theorem gA_count_96 {Q : q_R} {M : q_M} {a0 : Nat} {a1 : Int32} {s0 : Int32} : q_g 59 none Q 96 [some (.ref a0), some (.int a1)] ([.int s0]) M = Q (some (.int s0)) M := r_iret (r := []) (by decide +kernel) d59_96
theorem d59_97 : decode (q_code 59) 97 = .ok (.aload_n 0, 1) := by decide +kernel
theorem gA_count_97 {Q : q_R} {M : q_M} {r : List Value} {a0 : Nat} {a1 : Int32} : q_g 59 none Q 97 [some (.ref a0), some (.int a1)] (r) M = q_g 59 none Q 98 [some (.ref a0), some (.int a1)] (.ref a0 :: r) M := r_aload_n rfl d59_97
theorem d59_98 : decode (q_code 59) 98 = .ok (.getfield 43, 3) := by decide +kernel
theorem gA_count_98 {Q : q_R} {M : q_M} {r : List Value} {a0 : Nat} {a1 : Int32} {s0 : Nat} : q_g 59 none Q 98 [some (.ref a0), some (.int a1)] (.ref s0 :: r) M = (q_isC 3 s0 = true ∧ q_g 59 none Q 101 [some (.ref a0), some (.int a1)] (.int (M s0 7) :: r) M) := r_getI (by decide +kernel) (by decide +kernel) d59_98
theorem d59_101 : decode (q_code 59) 101 = .ok (.ireturn, 1) := by decide +kernel
theorem gA_count_101 {Q : q_R} {M : q_M} {a0 : Nat} {a1 : Int32} {s0 : Int32} : q_g 59 none Q 101 [some (.ref a0), some (.int a1)] ([.int s0]) M = Q (some (.int s0)) M := r_iret (r := []) (by decide +kernel) d59_101
theorem d59_102 : decode (q_code 59) 102 = .ok (.aload_n 0, 1) := by decide +kernel
theorem gA_count_102 {Q : q_R} {M : q_M} {r : List Value} {a0 : Nat} {a1 : Int32} : q_g 59 none Q 102 [some (.ref a0), some (.int a1)] (r) M = q_g 59 none Q 103 [some (.ref a0), some (.int a1)] (.ref a0 :: r) M := r_aload_n rfl d59_102
theorem d59_103 : decode (q_code 59) 103 = .ok (.getfield 25, 3) := by decide +kernel
theorem gA_count_103 {Q : q_R} {M : q_M} {r : List Value} {a0 : Nat} {a1 : Int32} {s0 : Nat} : q_g 59 none Q 103 [some (.ref a0), some (.int a1)] (.ref s0 :: r) M = (q_isC 3 s0 = true ∧ q_g 59 none Q 106 [some (.ref a0), some (.int a1)] (.ref (q_rf s0 3) :: r) M) := r_getR (by decide +kernel) (by decide +kernel) d59_103
theorem d59_106 : decode (q_code 59) 106 = .ok (.getfield 233, 3) := by decide +kernel
theorem gA_count_106 {Q : q_R} {M : q_M} {r : List Value} {a0 : Nat} {a1 : Int32} {s0 : Nat} : q_g 59 none Q 106 [some (.ref a0), some (.int a1)] (.ref s0 :: r) M = (q_isC 2 s0 = true ∧ q_g 59 none Q 109 [some (.ref a0), some (.int a1)] (.int (M s0 1) :: r) M) := r_getI (by decide +kernel) (by decide +kernel) d59_106
theorem d59_109 : decode (q_code 59) 109 = .ok (.ireturn, 1) := by decide +kernel
theorem gA_count_109 {Q : q_R} {M : q_M} {a0 : Nat} {a1 : Int32} {s0 : Int32} : q_g 59 none Q 109 [some (.ref a0), some (.int a1)] ([.int s0]) M = Q (some (.int s0)) M := r_iret (r := []) (by decide +kernel) d59_109
theorem d59_110 : decode (q_code 59) 110 = .ok (.iload_n 1, 1) := by decide +kernel
theorem gA_count_110 {Q : q_R} {M : q_M} {r : List Value} {a0 : Nat} {a1 : Int32} : q_g 59 none Q 110 [some (.ref a0), some (.int a1)] (r) M = q_g 59 none Q 111 [some (.ref a0), some (.int a1)] (.int a1 :: r) M := r_iload_n rfl d59_110
theorem d59_111 : decode (q_code 59) 111 = .ok (.bipush 11, 2) := by decide +kernel
theorem gA_count_111 {Q : q_R} {M : q_M} {r : List Value} {a0 : Nat} {a1 : Int32} : q_g 59 none Q 111 [some (.ref a0), some (.int a1)] (r) M = q_g 59 none Q 113 [some (.ref a0), some (.int a1)] (.int 11 :: r) M := r_bipush (by decide) d59_111
theorem d59_113 : decode (q_code 59) 113 = .ok (.if_icmp .lt 23, 3) := by decide +kernel
theorem gA_count_113 {Q : q_R} {M : q_M} {r : List Value} {a0 : Nat} {a1 : Int32} {s0 : Int32} {s1 : Int32} : q_g 59 none Q 113 [some (.ref a0), some (.int a1)] (.int s0 :: .int s1 :: r) M = (if s1 < s0 then q_g 59 none Q 136 [some (.ref a0), some (.int a1)] (r) M else q_g 59 none Q 116 [some (.ref a0), some (.int a1)] (r) M) := r_icmp_lt (by decide) (by decide) d59_113
theorem d59_116 : decode (q_code 59) 116 = .ok (.iload_n 1, 1) := by decide +kernel
theorem gA_count_116 {Q : q_R} {M : q_M} {r : List Value} {a0 : Nat} {a1 : Int32} : q_g 59 none Q 116 [some (.ref a0), some (.int a1)] (r) M = q_g 59 none Q 117 [some (.ref a0), some (.int a1)] (.int a1 :: r) M := r_iload_n rfl d59_116
theorem d59_117 : decode (q_code 59) 117 = .ok (.bipush 16, 2) := by decide +kernel
theorem gA_count_117 {Q : q_R} {M : q_M} {r : List Value} {a0 : Nat} {a1 : Int32} : q_g 59 none Q 117 [some (.ref a0), some (.int a1)] (r) M = q_g 59 none Q 119 [some (.ref a0), some (.int a1)] (.int 16 :: r) M := r_bipush (by decide) d59_117
theorem d59_119 : decode (q_code 59) 119 = .ok (.if_icmp .gt 17, 3) := by decide +kernel
theorem gA_count_119 {Q : q_R} {M : q_M} {r : List Value} {a0 : Nat} {a1 : Int32} {s0 : Int32} {s1 : Int32} : q_g 59 none Q 119 [some (.ref a0), some (.int a1)] (.int s0 :: .int s1 :: r) M = (if s0 < s1 then q_g 59 none Q 136 [some (.ref a0), some (.int a1)] (r) M else q_g 59 none Q 122 [some (.ref a0), some (.int a1)] (r) M) := r_icmp_gt (by decide) (by decide) d59_119
theorem d59_122 : decode (q_code 59) 122 = .ok (.aload_n 0, 1) := by decide +kernel
theorem gA_count_122 {Q : q_R} {M : q_M} {r : List Value} {a0 : Nat} {a1 : Int32} : q_g 59 none Q 122 [some (.ref a0), some (.int a1)] (r) M = q_g 59 none Q 123 [some (.ref a0), some (.int a1)] (.ref a0 :: r) M := r_aload_n rfl d59_122
theorem d59_123 : decode (q_code 59) 123 = .ok (.getfield 40, 3) := by decide +kernel
theorem gA_count_123 {Q : q_R} {M : q_M} {r : List Value} {a0 : Nat} {a1 : Int32} {s0 : Nat} : q_g 59 none Q 123 [some (.ref a0), some (.int a1)] (.ref s0 :: r) M = (q_isC 3 s0 = true ∧ q_g 59 none Q 126 [some (.ref a0), some (.int a1)] (.ref (q_rf s0 6) :: r) M) := r_getR (by decide +kernel) (by decide +kernel) d59_123
theorem d59_126 : decode (q_code 59) 126 = .ok (.iload_n 1, 1) := by decide +kernel
theorem gA_count_126 {Q : q_R} {M : q_M} {r : List Value} {a0 : Nat} {a1 : Int32} : q_g 59 none Q 126 [some (.ref a0), some (.int a1)] (r) M = q_g 59 none Q 127 [some (.ref a0), some (.int a1)] (.int a1 :: r) M := r_iload_n rfl d59_126
theorem d59_127 : decode (q_code 59) 127 = .ok (.bipush 10, 2) := by decide +kernel
theorem gA_count_127 {Q : q_R} {M : q_M} {r : List Value} {a0 : Nat} {a1 : Int32} : q_g 59 none Q 127 [some (.ref a0), some (.int a1)] (r) M = q_g 59 none Q 129 [some (.ref a0), some (.int a1)] (.int 10 :: r) M := r_bipush (by decide) d59_127
theorem d59_129 : decode (q_code 59) 129 = .ok (.isub, 1) := by decide +kernel
theorem gA_count_129 {Q : q_R} {M : q_M} {r : List Value} {a0 : Nat} {a1 : Int32} {s0 : Int32} {s1 : Int32} : q_g 59 none Q 129 [some (.ref a0), some (.int a1)] (.int s0 :: .int s1 :: r) M = q_g 59 none Q 130 [some (.ref a0), some (.int a1)] (.int (s1 - s0) :: r) M := r_isub d59_129
theorem d59_130 : decode (q_code 59) 130 = .ok (.invokestatic 236, 3) := by decide +kernel
theorem gA_count_130 {Q : q_R} {M : q_M} {a0 : Nat} {a1 : Int32} {s0 : Int32} {s1 : Nat} : q_g 59 none Q 130 [some (.ref a0), some (.int a1)] ([.int s0, .ref s1]) M = q_Run 1 [.ref s1, .int s0] M (fun v M' => q_g 59 none Q 133 [some (.ref a0), some (.int a1)] (v.toList ++ []) M') := r_call_static (k := 2) (by decide +kernel) (by decide +kernel) (by decide +kernel) (Nat.le_of_ble_eq_true rfl) (Nat.le_of_ble_eq_true rfl) rfl rfl d59_130
theorem d59_133 : decode (q_code 59) 133 = .ok (.goto 5, 3) := by decide +kernel
theorem gA_count_133 {Q : q_R} {M : q_M} {r : List Value} {a0 : Nat} {a1 : Int32} : q_g 59 none Q 133 [some (.ref a0), some (.int a1)] (r) M = q_g 59 none Q 138 [some (.ref a0), some (.int a1)] (r) M := r_goto (by decide) (by decide) d59_133
theorem d59_136 : decode (q_code 59) 136 = .ok (.bipush (-9), 2) := by decide +kernel
theorem gA_count_136 {Q : q_R} {M : q_M} {r : List Value} {a0 : Nat} {a1 : Int32} : q_g 59 none Q 136 [some (.ref a0), some (.int a1)] (r) M = q_g 59 none Q 138 [some (.ref a0), some (.int a1)] (.int (-9) :: r) M := r_bipush (by decide) d59_136
theorem d59_138 : decode (q_code 59) 138 = .ok (.ireturn, 1) := by decide +kernel
theorem gA_count_138 {Q : q_R} {M : q_M} {a0 : Nat} {a1 : Int32} {s0 : Int32} : q_g 59 none Q 138 [some (.ref a0), some (.int a1)] ([.int s0]) M = Q (some (.int s0)) M := r_iret (r := []) (by decide +kernel) d59_138
theorem e_A_does {Q : q_R} {M : q_M} {a0 : Nat} {a1 : Int32} : q_Run 60 [.ref a0, .int a1] M Q = q_g 60 none Q 0 [some (.ref a0), some (.int a1)] [] M := q_entry (Nat.le_of_ble_eq_true rfl) rfl
theorem d60_0 : decode (q_code 60) 0 = .ok (.aload_n 0, 1) := by decide +kernel
theorem gA_does_0 {Q : q_R} {M : q_M} {r : List Value} {a0 : Nat} {a1 : Int32} : q_g 60 none Q 0 [some (.ref a0), some (.int a1)] (r) M = q_g 60 none Q 1 [some (.ref a0), some (.int a1)] (.ref a0 :: r) M := r_aload_n rfl d60_0
theorem d60_1 : decode (q_code 60) 1 = .ok (.getfield 10, 3) := by decide +kernel
theorem gA_does_1 {Q : q_R} {M : q_M} {r : List Value} {a0 : Nat} {a1 : Int32} {s0 : Nat} : q_g 60 none Q 1 [some (.ref a0), some (.int a1)] (.ref s0 :: r) M = (q_isC 3 s0 = true ∧ q_g 60 none Q 4 [some (.ref a0), some (.int a1)] (.ref (q_rf s0 0) :: r) M) := r_getR (by decide +kernel) (by decide +kernel) d60_1
theorem d60_4 : decode (q_code 60) 4 = .ok (.iload_n 1, 1) := by decide +kernel
theorem gA_does_4 {Q : q_R} {M : q_M} {r : List Value} {a0 : Nat} {a1 : Int32} : q_g 60 none Q 4 [some (.ref a0), some (.int a1)] (r) M = q_g 60 none Q 5 [some (.ref a0), some (.int a1)] (.int a1 :: r) M := r_iload_n rfl d60_4
theorem d60_5 : decode (q_code 60) 5 = .ok (.invokevirtual 80, 3) := by decide +kernel
theorem gA_does_5 {Q : q_R} {M : q_M} {a0 : Nat} {a1 : Int32} {s0 : Int32} {s1 : Nat} : q_g 60 none Q 5 [some (.ref a0), some (.int a1)] ([.int s0, .ref s1]) M = (q_isC 0 s1 = true ∧ q_Run 11 [.ref s1, .int s0] M (fun v M' => q_g 60 none Q 8 [some (.ref a0), some (.int a1)] (v.toList ++ []) M')) := r_call_virtual (k := 2) (by decide +kernel) (by decide +kernel) (Nat.le_of_ble_eq_true rfl) (Nat.le_of_ble_eq_true rfl) rfl rfl d60_5
theorem d60_8 : decode (q_code 60) 8 = .ok (.ifCond .ne 9, 3) := by decide +kernel
theorem gA_does_8 {Q : q_R} {M : q_M} {r : List Value} {a0 : Nat} {a1 : Int32} {s0 : Int32} : q_g 60 none Q 8 [some (.ref a0), some (.int a1)] (.int s0 :: r) M = (if ¬ s0 = 0 then q_g 60 none Q 17 [some (.ref a0), some (.int a1)] (r) M else q_g 60 none Q 11 [some (.ref a0), some (.int a1)] (r) M) := r_if_ne (by decide) (by decide) d60_8
theorem d60_11 : decode (q_code 60) 11 = .ok (.aload_n 0, 1) := by decide +kernel
theorem gA_does_11 {Q : q_R} {M : q_M} {r : List Value} {a0 : Nat} {a1 : Int32} : q_g 60 none Q 11 [some (.ref a0), some (.int a1)] (r) M = q_g 60 none Q 12 [some (.ref a0), some (.int a1)] (.ref a0 :: r) M := r_aload_n rfl d60_11
theorem d60_12 : decode (q_code 60) 12 = .ok (.iconst (-1), 1) := by decide +kernel
theorem gA_does_12 {Q : q_R} {M : q_M} {r : List Value} {a0 : Nat} {a1 : Int32} : q_g 60 none Q 12 [some (.ref a0), some (.int a1)] (r) M = q_g 60 none Q 13 [some (.ref a0), some (.int a1)] (.int (-1) :: r) M := r_iconst (by decide) d60_12
theorem d60_13 : decode (q_code 60) 13 = .ok (.invokevirtual 51, 3) := by decide +kernel
theorem gA_does_13 {Q : q_R} {M : q_M} {a0 : Nat} {a1 : Int32} {s0 : Int32} {s1 : Nat} : q_g 60 none Q 13 [some (.ref a0), some (.int a1)] ([.int s0, .ref s1]) M = (q_isC 3 s1 = true ∧ q_Run 79 [.ref s1, .int s0] M (fun v M' => q_g 60 none Q 16 [some (.ref a0), some (.int a1)] (v.toList ++ []) M')) := r_call_virtual (k := 2) (by decide +kernel) (by decide +kernel) (Nat.le_of_ble_eq_true rfl) (Nat.le_of_ble_eq_true rfl) rfl rfl d60_13
theorem d60_16 : decode (q_code 60) 16 = .ok (.ireturn, 1) := by decide +kernel
theorem gA_does_16 {Q : q_R} {M : q_M} {a0 : Nat} {a1 : Int32} {s0 : Int32} : q_g 60 none Q 16 [some (.ref a0), some (.int a1)] ([.int s0]) M = Q (some (.int s0)) M := r_iret (r := []) (by decide +kernel) d60_16
theorem d60_17 : decode (q_code 60) 17 = .ok (.aload_n 0, 1) := by decide +kernel
theorem gA_does_17 {Q : q_R} {M : q_M} {r : List Value} {a0 : Nat} {a1 : Int32} : q_g 60 none Q 17 [some (.ref a0), some (.int a1)] (r) M = q_g 60 none Q 18 [some (.ref a0), some (.int a1)] (.ref a0 :: r) M := r_aload_n rfl d60_17
theorem d60_18 : decode (q_code 60) 18 = .ok (.getfield 10, 3) := by decide +kernel
theorem gA_does_18 {Q : q_R} {M : q_M} {r : List Value} {a0 : Nat} {a1 : Int32} {s0 : Nat} : q_g 60 none Q 18 [some (.ref a0), some (.int a1)] (.ref s0 :: r) M = (q_isC 3 s0 = true ∧ q_g 60 none Q 21 [some (.ref a0), some (.int a1)] (.ref (q_rf s0 0) :: r) M) := r_getR (by decide +kernel) (by decide +kernel) d60_18
theorem d60_21 : decode (q_code 60) 21 = .ok (.iload_n 1, 1) := by decide +kernel
theorem gA_does_21 {Q : q_R} {M : q_M} {r : List Value} {a0 : Nat} {a1 : Int32} : q_g 60 none Q 21 [some (.ref a0), some (.int a1)] (r) M = q_g 60 none Q 22 [some (.ref a0), some (.int a1)] (.int a1 :: r) M := r_iload_n rfl d60_21
theorem d60_22 : decode (q_code 60) 22 = .ok (.invokestatic 171, 3) := by decide +kernel
theorem gA_does_22 {Q : q_R} {M : q_M} {a0 : Nat} {a1 : Int32} {s0 : Int32} {s1 : Nat} : q_g 60 none Q 22 [some (.ref a0), some (.int a1)] ([.int s0, .ref s1]) M = q_Run 48 [.ref s1, .int s0] M (fun v M' => q_g 60 none Q 25 [some (.ref a0), some (.int a1)] (v.toList ++ []) M') := r_call_static (k := 2) (by decide +kernel) (by decide +kernel) (by decide +kernel) (Nat.le_of_ble_eq_true rfl) (Nat.le_of_ble_eq_true rfl) rfl rfl d60_22
theorem d60_25 : decode (q_code 60) 25 = .ok (.ireturn, 1) := by decide +kernel
theorem gA_does_25 {Q : q_R} {M : q_M} {a0 : Nat} {a1 : Int32} {s0 : Int32} : q_g 60 none Q 25 [some (.ref a0), some (.int a1)] ([.int s0]) M = Q (some (.int s0)) M := r_iret (r := []) (by decide +kernel) d60_25
theorem e_A_drawer {Q : q_R} {M : q_M} {a0 : Nat} {a1 : Int32} {a2 : Int32} {a3 : Int32} : q_Run 61 [.ref a0, .int a1, .int a2, .int a3] M Q = q_g 61 none Q 0 [some (.ref a0), some (.int a1), some (.int a2), some (.int a3), none] [] M := q_entry (Nat.le_of_ble_eq_true rfl) rfl
theorem d61_0 : decode (q_code 61) 0 = .ok (.iload_n 1, 1) := by decide +kernel
theorem gA_drawer_0 {Q : q_R} {M : q_M} {r : List Value} {a0 : Nat} {a1 : Int32} {a2 : Int32} {a3 : Int32} {a4 : Option Value} : q_g 61 none Q 0 [some (.ref a0), some (.int a1), some (.int a2), some (.int a3), a4] (r) M = q_g 61 none Q 1 [some (.ref a0), some (.int a1), some (.int a2), some (.int a3), a4] (.int a1 :: r) M := r_iload_n rfl d61_0
theorem d61_1 : decode (q_code 61) 1 = .ok (.iconst 1, 1) := by decide +kernel
theorem gA_drawer_1 {Q : q_R} {M : q_M} {r : List Value} {a0 : Nat} {a1 : Int32} {a2 : Int32} {a3 : Int32} {a4 : Option Value} : q_g 61 none Q 1 [some (.ref a0), some (.int a1), some (.int a2), some (.int a3), a4] (r) M = q_g 61 none Q 2 [some (.ref a0), some (.int a1), some (.int a2), some (.int a3), a4] (.int 1 :: r) M := r_iconst (by decide) d61_1
theorem d61_2 : decode (q_code 61) 2 = .ok (.if_icmp .lt 7, 3) := by decide +kernel
theorem gA_drawer_2 {Q : q_R} {M : q_M} {r : List Value} {a0 : Nat} {a1 : Int32} {a2 : Int32} {a3 : Int32} {a4 : Option Value} {s0 : Int32} {s1 : Int32} : q_g 61 none Q 2 [some (.ref a0), some (.int a1), some (.int a2), some (.int a3), a4] (.int s0 :: .int s1 :: r) M = (if s1 < s0 then q_g 61 none Q 9 [some (.ref a0), some (.int a1), some (.int a2), some (.int a3), a4] (r) M else q_g 61 none Q 5 [some (.ref a0), some (.int a1), some (.int a2), some (.int a3), a4] (r) M) := r_icmp_lt (by decide) (by decide) d61_2
theorem d61_5 : decode (q_code 61) 5 = .ok (.iload_n 2, 1) := by decide +kernel
theorem gA_drawer_5 {Q : q_R} {M : q_M} {r : List Value} {a0 : Nat} {a1 : Int32} {a2 : Int32} {a3 : Int32} {a4 : Option Value} : q_g 61 none Q 5 [some (.ref a0), some (.int a1), some (.int a2), some (.int a3), a4] (r) M = q_g 61 none Q 6 [some (.ref a0), some (.int a1), some (.int a2), some (.int a3), a4] (.int a2 :: r) M := r_iload_n rfl d61_5
theorem d61_6 : decode (q_code 61) 6 = .ok (.ifCond .ge 10, 3) := by decide +kernel
theorem gA_drawer_6 {Q : q_R} {M : q_M} {r : List Value} {a0 : Nat} {a1 : Int32} {a2 : Int32} {a3 : Int32} {a4 : Option Value} {s0 : Int32} : q_g 61 none Q 6 [some (.ref a0), some (.int a1), some (.int a2), some (.int a3), a4] (.int s0 :: r) M = (if 0 ≤ s0 then q_g 61 none Q 16 [some (.ref a0), some (.int a1), some (.int a2), some (.int a3), a4] (r) M else q_g 61 none Q 9 [some (.ref a0), some (.int a1), some (.int a2), some (.int a3), a4] (r) M) := r_if_ge (by decide) (by decide) d61_6
theorem d61_9 : decode (q_code 61) 9 = .ok (.aload_n 0, 1) := by decide +kernel
theorem gA_drawer_9 {Q : q_R} {M : q_M} {r : List Value} {a0 : Nat} {a1 : Int32} {a2 : Int32} {a3 : Int32} {a4 : Option Value} : q_g 61 none Q 9 [some (.ref a0), some (.int a1), some (.int a2), some (.int a3), a4] (r) M = q_g 61 none Q 10 [some (.ref a0), some (.int a1), some (.int a2), some (.int a3), a4] (.ref a0 :: r) M := r_aload_n rfl d61_9
theorem d61_10 : decode (q_code 61) 10 = .ok (.bipush (-4), 2) := by decide +kernel
theorem gA_drawer_10 {Q : q_R} {M : q_M} {r : List Value} {a0 : Nat} {a1 : Int32} {a2 : Int32} {a3 : Int32} {a4 : Option Value} : q_g 61 none Q 10 [some (.ref a0), some (.int a1), some (.int a2), some (.int a3), a4] (r) M = q_g 61 none Q 12 [some (.ref a0), some (.int a1), some (.int a2), some (.int a3), a4] (.int (-4) :: r) M := r_bipush (by decide) d61_10
theorem d61_12 : decode (q_code 61) 12 = .ok (.invokevirtual 138, 3) := by decide +kernel
theorem gA_drawer_12 {Q : q_R} {M : q_M} {a0 : Nat} {a1 : Int32} {a2 : Int32} {a3 : Int32} {a4 : Option Value} {s0 : Int32} {s1 : Nat} : q_g 61 none Q 12 [some (.ref a0), some (.int a1), some (.int a2), some (.int a3), a4] ([.int s0, .ref s1]) M = (q_isC 3 s1 = true ∧ q_Run 80 [.ref s1, .int s0] M (fun v M' => q_g 61 none Q 15 [some (.ref a0), some (.int a1), some (.int a2), some (.int a3), a4] (v.toList ++ []) M')) := r_call_virtual (k := 2) (by decide +kernel) (by decide +kernel) (Nat.le_of_ble_eq_true rfl) (Nat.le_of_ble_eq_true rfl) rfl rfl d61_12
theorem d61_15 : decode (q_code 61) 15 = .ok (.lreturn, 1) := by decide +kernel
theorem gA_drawer_15 {Q : q_R} {M : q_M} {a0 : Nat} {a1 : Int32} {a2 : Int32} {a3 : Int32} {a4 : Option Value} {s0 : Int64} : q_g 61 none Q 15 [some (.ref a0), some (.int a1), some (.int a2), some (.int a3), a4] ([.long s0]) M = Q (some (.long s0)) M := r_lret (r := []) (by decide +kernel) d61_15
theorem d61_16 : decode (q_code 61) 16 = .ok (.iload_n 1, 1) := by decide +kernel
theorem gA_drawer_16 {Q : q_R} {M : q_M} {r : List Value} {a0 : Nat} {a1 : Int32} {a2 : Int32} {a3 : Int32} {a4 : Option Value} : q_g 61 none Q 16 [some (.ref a0), some (.int a1), some (.int a2), some (.int a3), a4] (r) M = q_g 61 none Q 17 [some (.ref a0), some (.int a1), some (.int a2), some (.int a3), a4] (.int a1 :: r) M := r_iload_n rfl d61_16
theorem d61_17 : decode (q_code 61) 17 = .ok (.bipush 30, 2) := by decide +kernel
theorem gA_drawer_17 {Q : q_R} {M : q_M} {r : List Value} {a0 : Nat} {a1 : Int32} {a2 : Int32} {a3 : Int32} {a4 : Option Value} : q_g 61 none Q 17 [some (.ref a0), some (.int a1), some (.int a2), some (.int a3), a4] (r) M = q_g 61 none Q 19 [some (.ref a0), some (.int a1), some (.int a2), some (.int a3), a4] (.int 30 :: r) M := r_bipush (by decide) d61_17
theorem d61_19 : decode (q_code 61) 19 = .ok (.if_icmp .gt 8, 3) := by decide +kernel
theorem gA_drawer_19 {Q : q_R} {M : q_M} {r : List Value} {a0 : Nat} {a1 : Int32} {a2 : Int32} {a3 : Int32} {a4 : Option Value} {s0 : Int32} {s1 : Int32} : q_g 61 none Q 19 [some (.ref a0), some (.int a1), some (.int a2), some (.int a3), a4] (.int s0 :: .int s1 :: r) M = (if s0 < s1 then q_g 61 none Q 27 [some (.ref a0), some (.int a1), some (.int a2), some (.int a3), a4] (r) M else q_g 61 none Q 22 [some (.ref a0), some (.int a1), some (.int a2), some (.int a3), a4] (r) M) := r_icmp_gt (by decide) (by decide) d61_19
theorem d61_22 : decode (q_code 61) 22 = .ok (.iload_n 2, 1) := by decide +kernel
theorem gA_drawer_22 {Q : q_R} {M : q_M} {r : List Value} {a0 : Nat} {a1 : Int32} {a2 : Int32} {a3 : Int32} {a4 : Option Value} : q_g 61 none Q 22 [some (.ref a0), some (.int a1), some (.int a2), some (.int a3), a4] (r) M = q_g 61 none Q 23 [some (.ref a0), some (.int a1), some (.int a2), some (.int a3), a4] (.int a2 :: r) M := r_iload_n rfl d61_22
theorem d61_23 : decode (q_code 61) 23 = .ok (.iload_n 1, 1) := by decide +kernel
theorem gA_drawer_23 {Q : q_R} {M : q_M} {r : List Value} {a0 : Nat} {a1 : Int32} {a2 : Int32} {a3 : Int32} {a4 : Option Value} : q_g 61 none Q 23 [some (.ref a0), some (.int a1), some (.int a2), some (.int a3), a4] (r) M = q_g 61 none Q 24 [some (.ref a0), some (.int a1), some (.int a2), some (.int a3), a4] (.int a1 :: r) M := r_iload_n rfl d61_23
theorem d61_24 : decode (q_code 61) 24 = .ok (.if_icmp .le 10, 3) := by decide +kernel
theorem gA_drawer_24 {Q : q_R} {M : q_M} {r : List Value} {a0 : Nat} {a1 : Int32} {a2 : Int32} {a3 : Int32} {a4 : Option Value} {s0 : Int32} {s1 : Int32} : q_g 61 none Q 24 [some (.ref a0), some (.int a1), some (.int a2), some (.int a3), a4] (.int s0 :: .int s1 :: r) M = (if s1 ≤ s0 then q_g 61 none Q 34 [some (.ref a0), some (.int a1), some (.int a2), some (.int a3), a4] (r) M else q_g 61 none Q 27 [some (.ref a0), some (.int a1), some (.int a2), some (.int a3), a4] (r) M) := r_icmp_le (by decide) (by decide) d61_24
theorem d61_27 : decode (q_code 61) 27 = .ok (.aload_n 0, 1) := by decide +kernel
theorem gA_drawer_27 {Q : q_R} {M : q_M} {r : List Value} {a0 : Nat} {a1 : Int32} {a2 : Int32} {a3 : Int32} {a4 : Option Value} : q_g 61 none Q 27 [some (.ref a0), some (.int a1), some (.int a2), some (.int a3), a4] (r) M = q_g 61 none Q 28 [some (.ref a0), some (.int a1), some (.int a2), some (.int a3), a4] (.ref a0 :: r) M := r_aload_n rfl d61_27
theorem d61_28 : decode (q_code 61) 28 = .ok (.bipush (-6), 2) := by decide +kernel
theorem gA_drawer_28 {Q : q_R} {M : q_M} {r : List Value} {a0 : Nat} {a1 : Int32} {a2 : Int32} {a3 : Int32} {a4 : Option Value} : q_g 61 none Q 28 [some (.ref a0), some (.int a1), some (.int a2), some (.int a3), a4] (r) M = q_g 61 none Q 30 [some (.ref a0), some (.int a1), some (.int a2), some (.int a3), a4] (.int (-6) :: r) M := r_bipush (by decide) d61_28
theorem d61_30 : decode (q_code 61) 30 = .ok (.invokevirtual 138, 3) := by decide +kernel
theorem gA_drawer_30 {Q : q_R} {M : q_M} {a0 : Nat} {a1 : Int32} {a2 : Int32} {a3 : Int32} {a4 : Option Value} {s0 : Int32} {s1 : Nat} : q_g 61 none Q 30 [some (.ref a0), some (.int a1), some (.int a2), some (.int a3), a4] ([.int s0, .ref s1]) M = (q_isC 3 s1 = true ∧ q_Run 80 [.ref s1, .int s0] M (fun v M' => q_g 61 none Q 33 [some (.ref a0), some (.int a1), some (.int a2), some (.int a3), a4] (v.toList ++ []) M')) := r_call_virtual (k := 2) (by decide +kernel) (by decide +kernel) (Nat.le_of_ble_eq_true rfl) (Nat.le_of_ble_eq_true rfl) rfl rfl d61_30
theorem d61_33 : decode (q_code 61) 33 = .ok (.lreturn, 1) := by decide +kernel
theorem gA_drawer_33 {Q : q_R} {M : q_M} {a0 : Nat} {a1 : Int32} {a2 : Int32} {a3 : Int32} {a4 : Option Value} {s0 : Int64} : q_g 61 none Q 33 [some (.ref a0), some (.int a1), some (.int a2), some (.int a3), a4] ([.long s0]) M = Q (some (.long s0)) M := r_lret (r := []) (by decide +kernel) d61_33
theorem d61_34 : decode (q_code 61) 34 = .ok (.iload_n 3, 1) := by decide +kernel
theorem gA_drawer_34 {Q : q_R} {M : q_M} {r : List Value} {a0 : Nat} {a1 : Int32} {a2 : Int32} {a3 : Int32} {a4 : Option Value} : q_g 61 none Q 34 [some (.ref a0), some (.int a1), some (.int a2), some (.int a3), a4] (r) M = q_g 61 none Q 35 [some (.ref a0), some (.int a1), some (.int a2), some (.int a3), a4] (.int a3 :: r) M := r_iload_n rfl d61_34
theorem d61_35 : decode (q_code 61) 35 = .ok (.invokestatic 88, 3) := by decide +kernel
theorem gA_drawer_35 {Q : q_R} {M : q_M} {a0 : Nat} {a1 : Int32} {a2 : Int32} {a3 : Int32} {a4 : Option Value} {s0 : Int32} : q_g 61 none Q 35 [some (.ref a0), some (.int a1), some (.int a2), some (.int a3), a4] ([.int s0]) M = q_Run 66 [.int s0] M (fun v M' => q_g 61 none Q 38 [some (.ref a0), some (.int a1), some (.int a2), some (.int a3), a4] (v.toList ++ []) M') := r_call_static (k := 1) (by decide +kernel) (by decide +kernel) (by decide +kernel) (Nat.le_of_ble_eq_true rfl) (Nat.le_of_ble_eq_true rfl) rfl rfl d61_35
theorem d61_38 : decode (q_code 61) 38 = .ok (.ifCond .eq 10, 3) := by decide +kernel
theorem gA_drawer_38 {Q : q_R} {M : q_M} {r : List Value} {a0 : Nat} {a1 : Int32} {a2 : Int32} {a3 : Int32} {a4 : Option Value} {s0 : Int32} : q_g 61 none Q 38 [some (.ref a0), some (.int a1), some (.int a2), some (.int a3), a4] (.int s0 :: r) M = (if s0 = 0 then q_g 61 none Q 48 [some (.ref a0), some (.int a1), some (.int a2), some (.int a3), a4] (r) M else q_g 61 none Q 41 [some (.ref a0), some (.int a1), some (.int a2), some (.int a3), a4] (r) M) := r_if_eq (by decide) (by decide) d61_38
theorem d61_41 : decode (q_code 61) 41 = .ok (.aload_n 0, 1) := by decide +kernel
theorem gA_drawer_41 {Q : q_R} {M : q_M} {r : List Value} {a0 : Nat} {a1 : Int32} {a2 : Int32} {a3 : Int32} {a4 : Option Value} : q_g 61 none Q 41 [some (.ref a0), some (.int a1), some (.int a2), some (.int a3), a4] (r) M = q_g 61 none Q 42 [some (.ref a0), some (.int a1), some (.int a2), some (.int a3), a4] (.ref a0 :: r) M := r_aload_n rfl d61_41
theorem d61_42 : decode (q_code 61) 42 = .ok (.bipush (-2), 2) := by decide +kernel
theorem gA_drawer_42 {Q : q_R} {M : q_M} {r : List Value} {a0 : Nat} {a1 : Int32} {a2 : Int32} {a3 : Int32} {a4 : Option Value} : q_g 61 none Q 42 [some (.ref a0), some (.int a1), some (.int a2), some (.int a3), a4] (r) M = q_g 61 none Q 44 [some (.ref a0), some (.int a1), some (.int a2), some (.int a3), a4] (.int (-2) :: r) M := r_bipush (by decide) d61_42
theorem d61_44 : decode (q_code 61) 44 = .ok (.invokevirtual 138, 3) := by decide +kernel
theorem gA_drawer_44 {Q : q_R} {M : q_M} {a0 : Nat} {a1 : Int32} {a2 : Int32} {a3 : Int32} {a4 : Option Value} {s0 : Int32} {s1 : Nat} : q_g 61 none Q 44 [some (.ref a0), some (.int a1), some (.int a2), some (.int a3), a4] ([.int s0, .ref s1]) M = (q_isC 3 s1 = true ∧ q_Run 80 [.ref s1, .int s0] M (fun v M' => q_g 61 none Q 47 [some (.ref a0), some (.int a1), some (.int a2), some (.int a3), a4] (v.toList ++ []) M')) := r_call_virtual (k := 2) (by decide +kernel) (by decide +kernel) (Nat.le_of_ble_eq_true rfl) (Nat.le_of_ble_eq_true rfl) rfl rfl d61_44
theorem d61_47 : decode (q_code 61) 47 = .ok (.lreturn, 1) := by decide +kernel
theorem gA_drawer_47 {Q : q_R} {M : q_M} {a0 : Nat} {a1 : Int32} {a2 : Int32} {a3 : Int32} {a4 : Option Value} {s0 : Int64} : q_g 61 none Q 47 [some (.ref a0), some (.int a1), some (.int a2), some (.int a3), a4] ([.long s0]) M = Q (some (.long s0)) M := r_lret (r := []) (by decide +kernel) d61_47
theorem d61_48 : decode (q_code 61) 48 = .ok (.iload_n 1, 1) := by decide +kernel
theorem gA_drawer_48 {Q : q_R} {M : q_M} {r : List Value} {a0 : Nat} {a1 : Int32} {a2 : Int32} {a3 : Int32} {a4 : Option Value} : q_g 61 none Q 48 [some (.ref a0), some (.int a1), some (.int a2), some (.int a3), a4] (r) M = q_g 61 none Q 49 [some (.ref a0), some (.int a1), some (.int a2), some (.int a3), a4] (.int a1 :: r) M := r_iload_n rfl d61_48
theorem d61_49 : decode (q_code 61) 49 = .ok (.iload_n 2, 1) := by decide +kernel
theorem gA_drawer_49 {Q : q_R} {M : q_M} {r : List Value} {a0 : Nat} {a1 : Int32} {a2 : Int32} {a3 : Int32} {a4 : Option Value} : q_g 61 none Q 49 [some (.ref a0), some (.int a1), some (.int a2), some (.int a3), a4] (r) M = q_g 61 none Q 50 [some (.ref a0), some (.int a1), some (.int a2), some (.int a3), a4] (.int a2 :: r) M := r_iload_n rfl d61_49
theorem d61_50 : decode (q_code 61) 50 = .ok (.isub, 1) := by decide +kernel
theorem gA_drawer_50 {Q : q_R} {M : q_M} {r : List Value} {a0 : Nat} {a1 : Int32} {a2 : Int32} {a3 : Int32} {a4 : Option Value} {s0 : Int32} {s1 : Int32} : q_g 61 none Q 50 [some (.ref a0), some (.int a1), some (.int a2), some (.int a3), a4] (.int s0 :: .int s1 :: r) M = q_g 61 none Q 51 [some (.ref a0), some (.int a1), some (.int a2), some (.int a3), a4] (.int (s1 - s0) :: r) M := r_isub d61_50
theorem d61_51 : decode (q_code 61) 51 = .ok (.iconst 1, 1) := by decide +kernel
theorem gA_drawer_51 {Q : q_R} {M : q_M} {r : List Value} {a0 : Nat} {a1 : Int32} {a2 : Int32} {a3 : Int32} {a4 : Option Value} : q_g 61 none Q 51 [some (.ref a0), some (.int a1), some (.int a2), some (.int a3), a4] (r) M = q_g 61 none Q 52 [some (.ref a0), some (.int a1), some (.int a2), some (.int a3), a4] (.int 1 :: r) M := r_iconst (by decide) d61_51
theorem d61_52 : decode (q_code 61) 52 = .ok (.invokestatic 193, 3) := by decide +kernel
theorem gA_drawer_52 {Q : q_R} {M : q_M} {a0 : Nat} {a1 : Int32} {a2 : Int32} {a3 : Int32} {a4 : Option Value} {s0 : Int32} {s1 : Int32} : q_g 61 none Q 52 [some (.ref a0), some (.int a1), some (.int a2), some (.int a3), a4] ([.int s0, .int s1]) M = q_g 61 none Q 55 [some (.ref a0), some (.int a1), some (.int a2), some (.int a3), a4] ([.int (if s1 < s0 then s0 else s1)]) M := (r_max (by decide +kernel) (by decide +kernel) d61_52).trans (propext (and_iff_right (Nat.le_of_ble_eq_true rfl)))
theorem d61_55 : decode (q_code 61) 55 = .ok (.istore 4, 2) := by decide +kernel
theorem gA_drawer_55 {Q : q_R} {M : q_M} {r : List Value} {a0 : Nat} {a1 : Int32} {a2 : Int32} {a3 : Int32} {a4 : Option Value} {s0 : Int32} : q_g 61 none Q 55 [some (.ref a0), some (.int a1), some (.int a2), some (.int a3), a4] (.int s0 :: r) M = q_g 61 none Q 57 [some (.ref a0), some (.int a1), some (.int a2), some (.int a3), some (.int s0)] (r) M := r_istore (Nat.le_of_ble_eq_true rfl) d61_55
theorem d61_57 : decode (q_code 61) 57 = .ok (.iload 4, 2) := by decide +kernel
theorem gA_drawer_57 {Q : q_R} {M : q_M} {r : List Value} {a0 : Nat} {a1 : Int32} {a2 : Int32} {a3 : Int32} {a4 : Int32} : q_g 61 none Q 57 [some (.ref a0), some (.int a1), some (.int a2), some (.int a3), some (.int a4)] (r) M = q_g 61 none Q 59 [some (.ref a0), some (.int a1), some (.int a2), some (.int a3), some (.int a4)] (.int a4 :: r) M := r_iload rfl d61_57
theorem d61_59 : decode (q_code 61) 59 = .ok (.iconst 1, 1) := by decide +kernel
theorem gA_drawer_59 {Q : q_R} {M : q_M} {r : List Value} {a0 : Nat} {a1 : Int32} {a2 : Int32} {a3 : Int32} {a4 : Int32} : q_g 61 none Q 59 [some (.ref a0), some (.int a1), some (.int a2), some (.int a3), some (.int a4)] (r) M = q_g 61 none Q 60 [some (.ref a0), some (.int a1), some (.int a2), some (.int a3), some (.int a4)] (.int 1 :: r) M := r_iconst (by decide) d61_59
theorem d61_60 : decode (q_code 61) 60 = .ok (.iadd, 1) := by decide +kernel
theorem gA_drawer_60 {Q : q_R} {M : q_M} {r : List Value} {a0 : Nat} {a1 : Int32} {a2 : Int32} {a3 : Int32} {a4 : Int32} {s0 : Int32} {s1 : Int32} : q_g 61 none Q 60 [some (.ref a0), some (.int a1), some (.int a2), some (.int a3), some (.int a4)] (.int s0 :: .int s1 :: r) M = q_g 61 none Q 61 [some (.ref a0), some (.int a1), some (.int a2), some (.int a3), some (.int a4)] (.int (s1 + s0) :: r) M := r_iadd d61_60
theorem d61_61 : decode (q_code 61) 61 = .ok (.i2l, 1) := by decide +kernel
theorem gA_drawer_61 {Q : q_R} {M : q_M} {r : List Value} {a0 : Nat} {a1 : Int32} {a2 : Int32} {a3 : Int32} {a4 : Int32} {s0 : Int32} : q_g 61 none Q 61 [some (.ref a0), some (.int a1), some (.int a2), some (.int a3), some (.int a4)] (.int s0 :: r) M = q_g 61 none Q 62 [some (.ref a0), some (.int a1), some (.int a2), some (.int a3), some (.int a4)] (.long s0.toInt64 :: r) M := r_i2l d61_61
theorem d61_62 : decode (q_code 61) 62 = .ok (.ldc2_w 198, 3) := by decide +kernel
theorem gA_drawer_62 {Q : q_R} {M : q_M} {r : List Value} {a0 : Nat} {a1 : Int32} {a2 : Int32} {a3 : Int32} {a4 : Int32} : q_g 61 none Q 62 [some (.ref a0), some (.int a1), some (.int a2), some (.int a3), some (.int a4)] (r) M = q_g 61 none Q 65 [some (.ref a0), some (.int a1), some (.int a2), some (.int a3), some (.int a4)] (.long 2 :: r) M := r_ldc2 (by decide +kernel) d61_62
theorem d61_65 : decode (q_code 61) 65 = .ok (.iload_n 3, 1) := by decide +kernel
theorem gA_drawer_65 {Q : q_R} {M : q_M} {r : List Value} {a0 : Nat} {a1 : Int32} {a2 : Int32} {a3 : Int32} {a4 : Int32} : q_g 61 none Q 65 [some (.ref a0), some (.int a1), some (.int a2), some (.int a3), some (.int a4)] (r) M = q_g 61 none Q 66 [some (.ref a0), some (.int a1), some (.int a2), some (.int a3), some (.int a4)] (.int a3 :: r) M := r_iload_n rfl d61_65
theorem d61_66 : decode (q_code 61) 66 = .ok (.invokestatic 144, 3) := by decide +kernel
theorem gA_drawer_66 {Q : q_R} {M : q_M} {a0 : Nat} {a1 : Int32} {a2 : Int32} {a3 : Int32} {a4 : Int32} {s0 : Int32} {s1 : Int64} {s2 : Int64} : q_g 61 none Q 66 [some (.ref a0), some (.int a1), some (.int a2), some (.int a3), some (.int a4)] ([.int s0, .long s1, .long s2]) M = q_Run 57 [.long s2, .long s1, .int s0] M (fun v M' => q_g 61 none Q 69 [some (.ref a0), some (.int a1), some (.int a2), some (.int a3), some (.int a4)] (v.toList ++ []) M') := r_call_static (k := 3) (by decide +kernel) (by decide +kernel) (by decide +kernel) (Nat.le_of_ble_eq_true rfl) (Nat.le_of_ble_eq_true rfl) rfl rfl d61_66
theorem d61_69 : decode (q_code 61) 69 = .ok (.lreturn, 1) := by decide +kernel
theorem gA_drawer_69 {Q : q_R} {M : q_M} {a0 : Nat} {a1 : Int32} {a2 : Int32} {a3 : Int32} {a4 : Int32} {s0 : Int64} : q_g 61 none Q 69 [some (.ref a0), some (.int a1), some (.int a2), some (.int a3), some (.int a4)] ([.long s0]) M = Q (some (.long s0)) M := r_lret (r := []) (by decide +kernel) d61_69
theorem e_A_halfway {Q : q_R} {M : q_M} {a0 : Nat} {a1 : Int32} {a2 : Int32} : q_Run 62 [.ref a0, .int a1, .int a2] M Q = q_g 62 none Q 0 [some (.ref a0), some (.int a1), some (.int a2), none] [] M := q_entry (Nat.le_of_ble_eq_true rfl) rfl
theorem d62_0 : decode (q_code 62) 0 = .ok (.aload_n 0, 1) := by decide +kernel
theorem gA_halfway_0 {Q : q_R} {M : q_M} {r : List Value} {a0 : Nat} {a1 : Int32} {a2 : Int32} {a3 : Option Value} : q_g 62 none Q 0 [some (.ref a0), some (.int a1), some (.int a2), a3] (r) M = q_g 62 none Q 1 [some (.ref a0), some (.int a1), some (.int a2), a3] (.ref a0 :: r) M := r_aload_n rfl d62_0
theorem d62_1 : decode (q_code 62) 1 = .ok (.iload_n 1, 1) := by decide +kernel
theorem gA_halfway_1 {Q : q_R} {M : q_M} {r : List Value} {a0 : Nat} {a1 : Int32} {a2 : Int32} {a3 : Option Value} : q_g 62 none Q 1 [some (.ref a0), some (.int a1), some (.int a2), a3] (r) M = q_g 62 none Q 2 [some (.ref a0), some (.int a1), some (.int a2), a3] (.int a1 :: r) M := r_iload_n rfl d62_1
theorem d62_2 : decode (q_code 62) 2 = .ok (.invokevirtual 175, 3) := by decide +kernel
theorem gA_halfway_2 {Q : q_R} {M : q_M} {a0 : Nat} {a1 : Int32} {a2 : Int32} {a3 : Option Value} {s0 : Int32} {s1 : Nat} : q_g 62 none Q 2 [some (.ref a0), some (.int a1), some (.int a2), a3] ([.int s0, .ref s1]) M = (q_isC 3 s1 = true ∧ q_Run 78 [.ref s1, .int s0] M (fun v M' => q_g 62 none Q 5 [some (.ref a0), some (.int a1), some (.int a2), a3] (v.toList ++ []) M')) := r_call_virtual (k := 2) (by decide +kernel) (by decide +kernel) (Nat.le_of_ble_eq_true rfl) (Nat.le_of_ble_eq_true rfl) rfl rfl d62_2
theorem d62_5 : decode (q_code 62) 5 = .ok (.istore_n 3, 1) := by decide +kernel
theorem gA_halfway_5 {Q : q_R} {M : q_M} {r : List Value} {a0 : Nat} {a1 : Int32} {a2 : Int32} {a3 : Option Value} {s0 : Int32} : q_g 62 none Q 5 [some (.ref a0), some (.int a1), some (.int a2), a3] (.int s0 :: r) M = q_g 62 none Q 6 [some (.ref a0), some (.int a1), some (.int a2), some (.int s0)] (r) M := r_istore_n (Nat.le_of_ble_eq_true rfl) d62_5
theorem d62_6 : decode (q_code 62) 6 = .ok (.iload_n 3, 1) := by decide +kernel
theorem gA_halfway_6 {Q : q_R} {M : q_M} {r : List Value} {a0 : Nat} {a1 : Int32} {a2 : Int32} {a3 : Int32} : q_g 62 none Q 6 [some (.ref a0), some (.int a1), some (.int a2), some (.int a3)] (r) M = q_g 62 none Q 7 [some (.ref a0), some (.int a1), some (.int a2), some (.int a3)] (.int a3 :: r) M := r_iload_n rfl d62_6
theorem d62_7 : decode (q_code 62) 7 = .ok (.ifCond .eq 9, 3) := by decide +kernel
theorem gA_halfway_7 {Q : q_R} {M : q_M} {r : List Value} {a0 : Nat} {a1 : Int32} {a2 : Int32} {a3 : Int32} {s0 : Int32} : q_g 62 none Q 7 [some (.ref a0), some (.int a1), some (.int a2), some (.int a3)] (.int s0 :: r) M = (if s0 = 0 then q_g 62 none Q 16 [some (.ref a0), some (.int a1), some (.int a2), some (.int a3)] (r) M else q_g 62 none Q 10 [some (.ref a0), some (.int a1), some (.int a2), some (.int a3)] (r) M) := r_if_eq (by decide) (by decide) d62_7
theorem d62_10 : decode (q_code 62) 10 = .ok (.aload_n 0, 1) := by decide +kernel
theorem gA_halfway_10 {Q : q_R} {M : q_M} {r : List Value} {a0 : Nat} {a1 : Int32} {a2 : Int32} {a3 : Int32} : q_g 62 none Q 10 [some (.ref a0), some (.int a1), some (.int a2), some (.int a3)] (r) M = q_g 62 none Q 11 [some (.ref a0), some (.int a1), some (.int a2), some (.int a3)] (.ref a0 :: r) M := r_aload_n rfl d62_10
theorem d62_11 : decode (q_code 62) 11 = .ok (.iload_n 3, 1) := by decide +kernel
theorem gA_halfway_11 {Q : q_R} {M : q_M} {r : List Value} {a0 : Nat} {a1 : Int32} {a2 : Int32} {a3 : Int32} : q_g 62 none Q 11 [some (.ref a0), some (.int a1), some (.int a2), some (.int a3)] (r) M = q_g 62 none Q 12 [some (.ref a0), some (.int a1), some (.int a2), some (.int a3)] (.int a3 :: r) M := r_iload_n rfl d62_11
theorem d62_12 : decode (q_code 62) 12 = .ok (.invokevirtual 51, 3) := by decide +kernel
theorem gA_halfway_12 {Q : q_R} {M : q_M} {a0 : Nat} {a1 : Int32} {a2 : Int32} {a3 : Int32} {s0 : Int32} {s1 : Nat} : q_g 62 none Q 12 [some (.ref a0), some (.int a1), some (.int a2), some (.int a3)] ([.int s0, .ref s1]) M = (q_isC 3 s1 = true ∧ q_Run 79 [.ref s1, .int s0] M (fun v M' => q_g 62 none Q 15 [some (.ref a0), some (.int a1), some (.int a2), some (.int a3)] (v.toList ++ []) M')) := r_call_virtual (k := 2) (by decide +kernel) (by decide +kernel) (Nat.le_of_ble_eq_true rfl) (Nat.le_of_ble_eq_true rfl) rfl rfl d62_12
theorem d62_15 : decode (q_code 62) 15 = .ok (.ireturn, 1) := by decide +kernel
theorem gA_halfway_15 {Q : q_R} {M : q_M} {a0 : Nat} {a1 : Int32} {a2 : Int32} {a3 : Int32} {s0 : Int32} : q_g 62 none Q 15 [some (.ref a0), some (.int a1), some (.int a2), some (.int a3)] ([.int s0]) M = Q (some (.int s0)) M := r_iret (r := []) (by decide +kernel) d62_15
theorem d62_16 : decode (q_code 62) 16 = .ok (.iload_n 2, 1) := by decide +kernel
theorem gA_halfway_16 {Q : q_R} {M : q_M} {r : List Value} {a0 : Nat} {a1 : Int32} {a2 : Int32} {a3 : Int32} : q_g 62 none Q 16 [some (.ref a0), some (.int a1), some (.int a2), some (.int a3)] (r) M = q_g 62 none Q 17 [some (.ref a0), some (.int a1), some (.int a2), some (.int a3)] (.int a2 :: r) M := r_iload_n rfl d62_16
theorem d62_17 : decode (q_code 62) 17 = .ok (.ifCond .ge 10, 3) := by decide +kernel
theorem gA_halfway_17 {Q : q_R} {M : q_M} {r : List Value} {a0 : Nat} {a1 : Int32} {a2 : Int32} {a3 : Int32} {s0 : Int32} : q_g 62 none Q 17 [some (.ref a0), some (.int a1), some (.int a2), some (.int a3)] (.int s0 :: r) M = (if 0 ≤ s0 then q_g 62 none Q 27 [some (.ref a0), some (.int a1), some (.int a2), some (.int a3)] (r) M else q_g 62 none Q 20 [some (.ref a0), some (.int a1), some (.int a2), some (.int a3)] (r) M) := r_if_ge (by decide) (by decide) d62_17
theorem d62_20 : decode (q_code 62) 20 = .ok (.aload_n 0, 1) := by decide +kernel
theorem gA_halfway_20 {Q : q_R} {M : q_M} {r : List Value} {a0 : Nat} {a1 : Int32} {a2 : Int32} {a3 : Int32} : q_g 62 none Q 20 [some (.ref a0), some (.int a1), some (.int a2), some (.int a3)] (r) M = q_g 62 none Q 21 [some (.ref a0), some (.int a1), some (.int a2), some (.int a3)] (.ref a0 :: r) M := r_aload_n rfl d62_20
theorem d62_21 : decode (q_code 62) 21 = .ok (.bipush (-4), 2) := by decide +kernel
theorem gA_halfway_21 {Q : q_R} {M : q_M} {r : List Value} {a0 : Nat} {a1 : Int32} {a2 : Int32} {a3 : Int32} : q_g 62 none Q 21 [some (.ref a0), some (.int a1), some (.int a2), some (.int a3)] (r) M = q_g 62 none Q 23 [some (.ref a0), some (.int a1), some (.int a2), some (.int a3)] (.int (-4) :: r) M := r_bipush (by decide) d62_21
theorem d62_23 : decode (q_code 62) 23 = .ok (.invokevirtual 51, 3) := by decide +kernel
theorem gA_halfway_23 {Q : q_R} {M : q_M} {a0 : Nat} {a1 : Int32} {a2 : Int32} {a3 : Int32} {s0 : Int32} {s1 : Nat} : q_g 62 none Q 23 [some (.ref a0), some (.int a1), some (.int a2), some (.int a3)] ([.int s0, .ref s1]) M = (q_isC 3 s1 = true ∧ q_Run 79 [.ref s1, .int s0] M (fun v M' => q_g 62 none Q 26 [some (.ref a0), some (.int a1), some (.int a2), some (.int a3)] (v.toList ++ []) M')) := r_call_virtual (k := 2) (by decide +kernel) (by decide +kernel) (Nat.le_of_ble_eq_true rfl) (Nat.le_of_ble_eq_true rfl) rfl rfl d62_23
theorem d62_26 : decode (q_code 62) 26 = .ok (.ireturn, 1) := by decide +kernel
theorem gA_halfway_26 {Q : q_R} {M : q_M} {a0 : Nat} {a1 : Int32} {a2 : Int32} {a3 : Int32} {s0 : Int32} : q_g 62 none Q 26 [some (.ref a0), some (.int a1), some (.int a2), some (.int a3)] ([.int s0]) M = Q (some (.int s0)) M := r_iret (r := []) (by decide +kernel) d62_26
theorem d62_27 : decode (q_code 62) 27 = .ok (.iload_n 2, 1) := by decide +kernel
theorem gA_halfway_27 {Q : q_R} {M : q_M} {r : List Value} {a0 : Nat} {a1 : Int32} {a2 : Int32} {a3 : Int32} : q_g 62 none Q 27 [some (.ref a0), some (.int a1), some (.int a2), some (.int a3)] (r) M = q_g 62 none Q 28 [some (.ref a0), some (.int a1), some (.int a2), some (.int a3)] (.int a2 :: r) M := r_iload_n rfl d62_27
theorem d62_28 : decode (q_code 62) 28 = .ok (.iload_n 1, 1) := by decide +kernel
theorem gA_halfway_28 {Q : q_R} {M : q_M} {r : List Value} {a0 : Nat} {a1 : Int32} {a2 : Int32} {a3 : Int32} : q_g 62 none Q 28 [some (.ref a0), some (.int a1), some (.int a2), some (.int a3)] (r) M = q_g 62 none Q 29 [some (.ref a0), some (.int a1), some (.int a2), some (.int a3)] (.int a1 :: r) M := r_iload_n rfl d62_28
theorem d62_29 : decode (q_code 62) 29 = .ok (.aload_n 0, 1) := by decide +kernel
theorem gA_halfway_29 {Q : q_R} {M : q_M} {r : List Value} {a0 : Nat} {a1 : Int32} {a2 : Int32} {a3 : Int32} : q_g 62 none Q 29 [some (.ref a0), some (.int a1), some (.int a2), some (.int a3)] (r) M = q_g 62 none Q 30 [some (.ref a0), some (.int a1), some (.int a2), some (.int a3)] (.ref a0 :: r) M := r_aload_n rfl d62_29
theorem d62_30 : decode (q_code 62) 30 = .ok (.getfield 10, 3) := by decide +kernel
theorem gA_halfway_30 {Q : q_R} {M : q_M} {r : List Value} {a0 : Nat} {a1 : Int32} {a2 : Int32} {a3 : Int32} {s0 : Nat} : q_g 62 none Q 30 [some (.ref a0), some (.int a1), some (.int a2), some (.int a3)] (.ref s0 :: r) M = (q_isC 3 s0 = true ∧ q_g 62 none Q 33 [some (.ref a0), some (.int a1), some (.int a2), some (.int a3)] (.ref (q_rf s0 0) :: r) M) := r_getR (by decide +kernel) (by decide +kernel) d62_30
theorem d62_33 : decode (q_code 62) 33 = .ok (.getfield 100, 3) := by decide +kernel
theorem gA_halfway_33 {Q : q_R} {M : q_M} {r : List Value} {a0 : Nat} {a1 : Int32} {a2 : Int32} {a3 : Int32} {s0 : Nat} : q_g 62 none Q 33 [some (.ref a0), some (.int a1), some (.int a2), some (.int a3)] (.ref s0 :: r) M = (q_isC 0 s0 = true ∧ q_g 62 none Q 36 [some (.ref a0), some (.int a1), some (.int a2), some (.int a3)] (.int (M s0 7) :: r) M) := r_getI (by decide +kernel) (by decide +kernel) d62_33
theorem d62_36 : decode (q_code 62) 36 = .ok (.iconst (-1), 1) := by decide +kernel
theorem gA_halfway_36 {Q : q_R} {M : q_M} {r : List Value} {a0 : Nat} {a1 : Int32} {a2 : Int32} {a3 : Int32} : q_g 62 none Q 36 [some (.ref a0), some (.int a1), some (.int a2), some (.int a3)] (r) M = q_g 62 none Q 37 [some (.ref a0), some (.int a1), some (.int a2), some (.int a3)] (.int (-1) :: r) M := r_iconst (by decide) d62_36
theorem d62_37 : decode (q_code 62) 37 = .ok (.ixor, 1) := by decide +kernel
theorem gA_halfway_37 {Q : q_R} {M : q_M} {r : List Value} {a0 : Nat} {a1 : Int32} {a2 : Int32} {a3 : Int32} {s0 : Int32} {s1 : Int32} : q_g 62 none Q 37 [some (.ref a0), some (.int a1), some (.int a2), some (.int a3)] (.int s0 :: .int s1 :: r) M = q_g 62 none Q 38 [some (.ref a0), some (.int a1), some (.int a2), some (.int a3)] (.int (s1 ^^^ s0) :: r) M := r_ixor d62_37
theorem d62_38 : decode (q_code 62) 38 = .ok (.iand, 1) := by decide +kernel
theorem gA_halfway_38 {Q : q_R} {M : q_M} {r : List Value} {a0 : Nat} {a1 : Int32} {a2 : Int32} {a3 : Int32} {s0 : Int32} {s1 : Int32} : q_g 62 none Q 38 [some (.ref a0), some (.int a1), some (.int a2), some (.int a3)] (.int s0 :: .int s1 :: r) M = q_g 62 none Q 39 [some (.ref a0), some (.int a1), some (.int a2), some (.int a3)] (.int (s1 &&& s0) :: r) M := r_iand d62_38
theorem d62_39 : decode (q_code 62) 39 = .ok (.invokestatic 184, 3) := by decide +kernel
theorem gA_halfway_39 {Q : q_R} {M : q_M} {a0 : Nat} {a1 : Int32} {a2 : Int32} {a3 : Int32} {s0 : Int32} {s1 : Int32} : q_g 62 none Q 39 [some (.ref a0), some (.int a1), some (.int a2), some (.int a3)] ([.int s0, .int s1]) M = q_Run 156 [.int s0] M (fun v M' => q_g 62 none Q 42 [some (.ref a0), some (.int a1), some (.int a2), some (.int a3)] (v.toList ++ [.int s1]) M') := r_call_static (k := 1) (by decide +kernel) (by decide +kernel) (by decide +kernel) (Nat.le_of_ble_eq_true rfl) (Nat.le_of_ble_eq_true rfl) rfl rfl d62_39
theorem d62_42 : decode (q_code 62) 42 = .ok (.if_icmp .le 10, 3) := by decide +kernel
theorem gA_halfway_42 {Q : q_R} {M : q_M} {r : List Value} {a0 : Nat} {a1 : Int32} {a2 : Int32} {a3 : Int32} {s0 : Int32} {s1 : Int32} : q_g 62 none Q 42 [some (.ref a0), some (.int a1), some (.int a2), some (.int a3)] (.int s0 :: .int s1 :: r) M = (if s1 ≤ s0 then q_g 62 none Q 52 [some (.ref a0), some (.int a1), some (.int a2), some (.int a3)] (r) M else q_g 62 none Q 45 [some (.ref a0), some (.int a1), some (.int a2), some (.int a3)] (r) M) := r_icmp_le (by decide) (by decide) d62_42
theorem d62_45 : decode (q_code 62) 45 = .ok (.aload_n 0, 1) := by decide +kernel
theorem gA_halfway_45 {Q : q_R} {M : q_M} {r : List Value} {a0 : Nat} {a1 : Int32} {a2 : Int32} {a3 : Int32} : q_g 62 none Q 45 [some (.ref a0), some (.int a1), some (.int a2), some (.int a3)] (r) M = q_g 62 none Q 46 [some (.ref a0), some (.int a1), some (.int a2), some (.int a3)] (.ref a0 :: r) M := r_aload_n rfl d62_45
theorem d62_46 : decode (q_code 62) 46 = .ok (.bipush (-6), 2) := by decide +kernel
theorem gA_halfway_46 {Q : q_R} {M : q_M} {r : List Value} {a0 : Nat} {a1 : Int32} {a2 : Int32} {a3 : Int32} : q_g 62 none Q 46 [some (.ref a0), some (.int a1), some (.int a2), some (.int a3)] (r) M = q_g 62 none Q 48 [some (.ref a0), some (.int a1), some (.int a2), some (.int a3)] (.int (-6) :: r) M := r_bipush (by decide) d62_46
theorem d62_48 : decode (q_code 62) 48 = .ok (.invokevirtual 51, 3) := by decide +kernel
theorem gA_halfway_48 {Q : q_R} {M : q_M} {a0 : Nat} {a1 : Int32} {a2 : Int32} {a3 : Int32} {s0 : Int32} {s1 : Nat} : q_g 62 none Q 48 [some (.ref a0), some (.int a1), some (.int a2), some (.int a3)] ([.int s0, .ref s1]) M = (q_isC 3 s1 = true ∧ q_Run 79 [.ref s1, .int s0] M (fun v M' => q_g 62 none Q 51 [some (.ref a0), some (.int a1), some (.int a2), some (.int a3)] (v.toList ++ []) M')) := r_call_virtual (k := 2) (by decide +kernel) (by decide +kernel) (Nat.le_of_ble_eq_true rfl) (Nat.le_of_ble_eq_true rfl) rfl rfl d62_48
theorem d62_51 : decode (q_code 62) 51 = .ok (.ireturn, 1) := by decide +kernel
theorem gA_halfway_51 {Q : q_R} {M : q_M} {a0 : Nat} {a1 : Int32} {a2 : Int32} {a3 : Int32} {s0 : Int32} : q_g 62 none Q 51 [some (.ref a0), some (.int a1), some (.int a2), some (.int a3)] ([.int s0]) M = Q (some (.int s0)) M := r_iret (r := []) (by decide +kernel) d62_51
theorem d62_52 : decode (q_code 62) 52 = .ok (.aload_n 0, 1) := by decide +kernel
theorem gA_halfway_52 {Q : q_R} {M : q_M} {r : List Value} {a0 : Nat} {a1 : Int32} {a2 : Int32} {a3 : Int32} : q_g 62 none Q 52 [some (.ref a0), some (.int a1), some (.int a2), some (.int a3)] (r) M = q_g 62 none Q 53 [some (.ref a0), some (.int a1), some (.int a2), some (.int a3)] (.ref a0 :: r) M := r_aload_n rfl d62_52
theorem d62_53 : decode (q_code 62) 53 = .ok (.getfield 32, 3) := by decide +kernel
theorem gA_halfway_53 {Q : q_R} {M : q_M} {r : List Value} {a0 : Nat} {a1 : Int32} {a2 : Int32} {a3 : Int32} {s0 : Nat} : q_g 62 none Q 53 [some (.ref a0), some (.int a1), some (.int a2), some (.int a3)] (.ref s0 :: r) M = (q_isC 3 s0 = true ∧ q_g 62 none Q 56 [some (.ref a0), some (.int a1), some (.int a2), some (.int a3)] (.ref (q_rf s0 4) :: r) M) := r_getR (by decide +kernel) (by decide +kernel) d62_53
theorem d62_56 : decode (q_code 62) 56 = .ok (.aload_n 0, 1) := by decide +kernel
theorem gA_halfway_56 {Q : q_R} {M : q_M} {r : List Value} {a0 : Nat} {a1 : Int32} {a2 : Int32} {a3 : Int32} : q_g 62 none Q 56 [some (.ref a0), some (.int a1), some (.int a2), some (.int a3)] (r) M = q_g 62 none Q 57 [some (.ref a0), some (.int a1), some (.int a2), some (.int a3)] (.ref a0 :: r) M := r_aload_n rfl d62_56
theorem d62_57 : decode (q_code 62) 57 = .ok (.getfield 10, 3) := by decide +kernel
theorem gA_halfway_57 {Q : q_R} {M : q_M} {r : List Value} {a0 : Nat} {a1 : Int32} {a2 : Int32} {a3 : Int32} {s0 : Nat} : q_g 62 none Q 57 [some (.ref a0), some (.int a1), some (.int a2), some (.int a3)] (.ref s0 :: r) M = (q_isC 3 s0 = true ∧ q_g 62 none Q 60 [some (.ref a0), some (.int a1), some (.int a2), some (.int a3)] (.ref (q_rf s0 0) :: r) M) := r_getR (by decide +kernel) (by decide +kernel) d62_57
theorem d62_60 : decode (q_code 62) 60 = .ok (.iload_n 1, 1) := by decide +kernel
theorem gA_halfway_60 {Q : q_R} {M : q_M} {r : List Value} {a0 : Nat} {a1 : Int32} {a2 : Int32} {a3 : Int32} : q_g 62 none Q 60 [some (.ref a0), some (.int a1), some (.int a2), some (.int a3)] (r) M = q_g 62 none Q 61 [some (.ref a0), some (.int a1), some (.int a2), some (.int a3)] (.int a1 :: r) M := r_iload_n rfl d62_60
theorem d62_61 : decode (q_code 62) 61 = .ok (.iload_n 2, 1) := by decide +kernel
theorem gA_halfway_61 {Q : q_R} {M : q_M} {r : List Value} {a0 : Nat} {a1 : Int32} {a2 : Int32} {a3 : Int32} : q_g 62 none Q 61 [some (.ref a0), some (.int a1), some (.int a2), some (.int a3)] (r) M = q_g 62 none Q 62 [some (.ref a0), some (.int a1), some (.int a2), some (.int a3)] (.int a2 :: r) M := r_iload_n rfl d62_61
theorem d62_62 : decode (q_code 62) 62 = .ok (.invokevirtual 189, 3) := by decide +kernel
theorem gA_halfway_62 {Q : q_R} {M : q_M} {a0 : Nat} {a1 : Int32} {a2 : Int32} {a3 : Int32} {s0 : Int32} {s1 : Int32} {s2 : Nat} {s3 : Nat} : q_g 62 none Q 62 [some (.ref a0), some (.int a1), some (.int a2), some (.int a3)] ([.int s0, .int s1, .ref s2, .ref s3]) M = (q_isC 1 s3 = true ∧ q_Run 23 [.ref s3, .ref s2, .int s1, .int s0] M (fun v M' => q_g 62 none Q 65 [some (.ref a0), some (.int a1), some (.int a2), some (.int a3)] (v.toList ++ []) M')) := r_call_virtual (k := 4) (by decide +kernel) (by decide +kernel) (Nat.le_of_ble_eq_true rfl) (Nat.le_of_ble_eq_true rfl) rfl rfl d62_62
theorem d62_65 : decode (q_code 62) 65 = .ok (.ireturn, 1) := by decide +kernel
theorem gA_halfway_65 {Q : q_R} {M : q_M} {a0 : Nat} {a1 : Int32} {a2 : Int32} {a3 : Int32} {s0 : Int32} : q_g 62 none Q 65 [some (.ref a0), some (.int a1), some (.int a2), some (.int a3)] ([.int s0]) M = Q (some (.int s0)) M := r_iret (r := []) (by decide +kernel) d62_65
theorem e_A_hand {Q : q_R} {M : q_M} {a0 : Nat} {a1 : Int32} : q_Run 63 [.ref a0, .int a1] M Q = q_g 63 none Q 0 [some (.ref a0), some (.int a1)] [] M := q_entry (Nat.le_of_ble_eq_true rfl) rfl
theorem d63_0 : decode (q_code 63) 0 = .ok (.aload_n 0, 1) := by decide +kernel
theorem gA_hand_0 {Q : q_R} {M : q_M} {r : List Value} {a0 : Nat} {a1 : Int32} : q_g 63 none Q 0 [some (.ref a0), some (.int a1)] (r) M = q_g 63 none Q 1 [some (.ref a0), some (.int a1)] (.ref a0 :: r) M := r_aload_n rfl d63_0
theorem d63_1 : decode (q_code 63) 1 = .ok (.getfield 10, 3) := by decide +kernel
theorem gA_hand_1 {Q : q_R} {M : q_M} {r : List Value} {a0 : Nat} {a1 : Int32} {s0 : Nat} : q_g 63 none Q 1 [some (.ref a0), some (.int a1)] (.ref s0 :: r) M = (q_isC 3 s0 = true ∧ q_g 63 none Q 4 [some (.ref a0), some (.int a1)] (.ref (q_rf s0 0) :: r) M) := r_getR (by decide +kernel) (by decide +kernel) d63_1
theorem d63_4 : decode (q_code 63) 4 = .ok (.iload_n 1, 1) := by decide +kernel
theorem gA_hand_4 {Q : q_R} {M : q_M} {r : List Value} {a0 : Nat} {a1 : Int32} : q_g 63 none Q 4 [some (.ref a0), some (.int a1)] (r) M = q_g 63 none Q 5 [some (.ref a0), some (.int a1)] (.int a1 :: r) M := r_iload_n rfl d63_4
theorem d63_5 : decode (q_code 63) 5 = .ok (.invokevirtual 80, 3) := by decide +kernel
theorem gA_hand_5 {Q : q_R} {M : q_M} {a0 : Nat} {a1 : Int32} {s0 : Int32} {s1 : Nat} : q_g 63 none Q 5 [some (.ref a0), some (.int a1)] ([.int s0, .ref s1]) M = (q_isC 0 s1 = true ∧ q_Run 11 [.ref s1, .int s0] M (fun v M' => q_g 63 none Q 8 [some (.ref a0), some (.int a1)] (v.toList ++ []) M')) := r_call_virtual (k := 2) (by decide +kernel) (by decide +kernel) (Nat.le_of_ble_eq_true rfl) (Nat.le_of_ble_eq_true rfl) rfl rfl d63_5
theorem d63_8 : decode (q_code 63) 8 = .ok (.ifCond .ne 9, 3) := by decide +kernel
theorem gA_hand_8 {Q : q_R} {M : q_M} {r : List Value} {a0 : Nat} {a1 : Int32} {s0 : Int32} : q_g 63 none Q 8 [some (.ref a0), some (.int a1)] (.int s0 :: r) M = (if ¬ s0 = 0 then q_g 63 none Q 17 [some (.ref a0), some (.int a1)] (r) M else q_g 63 none Q 11 [some (.ref a0), some (.int a1)] (r) M) := r_if_ne (by decide) (by decide) d63_8
theorem d63_11 : decode (q_code 63) 11 = .ok (.aload_n 0, 1) := by decide +kernel
theorem gA_hand_11 {Q : q_R} {M : q_M} {r : List Value} {a0 : Nat} {a1 : Int32} : q_g 63 none Q 11 [some (.ref a0), some (.int a1)] (r) M = q_g 63 none Q 12 [some (.ref a0), some (.int a1)] (.ref a0 :: r) M := r_aload_n rfl d63_11
theorem d63_12 : decode (q_code 63) 12 = .ok (.iconst (-1), 1) := by decide +kernel
theorem gA_hand_12 {Q : q_R} {M : q_M} {r : List Value} {a0 : Nat} {a1 : Int32} : q_g 63 none Q 12 [some (.ref a0), some (.int a1)] (r) M = q_g 63 none Q 13 [some (.ref a0), some (.int a1)] (.int (-1) :: r) M := r_iconst (by decide) d63_12
theorem d63_13 : decode (q_code 63) 13 = .ok (.invokevirtual 51, 3) := by decide +kernel
theorem gA_hand_13 {Q : q_R} {M : q_M} {a0 : Nat} {a1 : Int32} {s0 : Int32} {s1 : Nat} : q_g 63 none Q 13 [some (.ref a0), some (.int a1)] ([.int s0, .ref s1]) M = (q_isC 3 s1 = true ∧ q_Run 79 [.ref s1, .int s0] M (fun v M' => q_g 63 none Q 16 [some (.ref a0), some (.int a1)] (v.toList ++ []) M')) := r_call_virtual (k := 2) (by decide +kernel) (by decide +kernel) (Nat.le_of_ble_eq_true rfl) (Nat.le_of_ble_eq_true rfl) rfl rfl d63_13
theorem d63_16 : decode (q_code 63) 16 = .ok (.ireturn, 1) := by decide +kernel
theorem gA_hand_16 {Q : q_R} {M : q_M} {a0 : Nat} {a1 : Int32} {s0 : Int32} : q_g 63 none Q 16 [some (.ref a0), some (.int a1)] ([.int s0]) M = Q (some (.int s0)) M := r_iret (r := []) (by decide +kernel) d63_16
theorem d63_17 : decode (q_code 63) 17 = .ok (.aload_n 0, 1) := by decide +kernel
theorem gA_hand_17 {Q : q_R} {M : q_M} {r : List Value} {a0 : Nat} {a1 : Int32} : q_g 63 none Q 17 [some (.ref a0), some (.int a1)] (r) M = q_g 63 none Q 18 [some (.ref a0), some (.int a1)] (.ref a0 :: r) M := r_aload_n rfl d63_17
theorem d63_18 : decode (q_code 63) 18 = .ok (.getfield 10, 3) := by decide +kernel
theorem gA_hand_18 {Q : q_R} {M : q_M} {r : List Value} {a0 : Nat} {a1 : Int32} {s0 : Nat} : q_g 63 none Q 18 [some (.ref a0), some (.int a1)] (.ref s0 :: r) M = (q_isC 3 s0 = true ∧ q_g 63 none Q 21 [some (.ref a0), some (.int a1)] (.ref (q_rf s0 0) :: r) M) := r_getR (by decide +kernel) (by decide +kernel) d63_18
theorem d63_21 : decode (q_code 63) 21 = .ok (.iload_n 1, 1) := by decide +kernel
theorem gA_hand_21 {Q : q_R} {M : q_M} {r : List Value} {a0 : Nat} {a1 : Int32} : q_g 63 none Q 21 [some (.ref a0), some (.int a1)] (r) M = q_g 63 none Q 22 [some (.ref a0), some (.int a1)] (.int a1 :: r) M := r_iload_n rfl d63_21
theorem d63_22 : decode (q_code 63) 22 = .ok (.invokevirtual 97, 3) := by decide +kernel
theorem gA_hand_22 {Q : q_R} {M : q_M} {a0 : Nat} {a1 : Int32} {s0 : Int32} {s1 : Nat} : q_g 63 none Q 22 [some (.ref a0), some (.int a1)] ([.int s0, .ref s1]) M = (q_isC 0 s1 = true ∧ q_Run 21 [.ref s1, .int s0] M (fun v M' => q_g 63 none Q 25 [some (.ref a0), some (.int a1)] (v.toList ++ []) M')) := r_call_virtual (k := 2) (by decide +kernel) (by decide +kernel) (Nat.le_of_ble_eq_true rfl) (Nat.le_of_ble_eq_true rfl) rfl rfl d63_22
theorem d63_25 : decode (q_code 63) 25 = .ok (.ireturn, 1) := by decide +kernel
theorem gA_hand_25 {Q : q_R} {M : q_M} {a0 : Nat} {a1 : Int32} {s0 : Int32} : q_g 63 none Q 25 [some (.ref a0), some (.int a1)] ([.int s0]) M = Q (some (.int s0)) M := r_iret (r := []) (by decide +kernel) d63_25
theorem e_A_house {Q : q_R} {M : q_M} {a0 : Nat} : q_Run 64 [.ref a0] M Q = q_g 64 none Q 0 [some (.ref a0), none] [] M := q_entry (Nat.le_of_ble_eq_true rfl) rfl
theorem d64_0 : decode (q_code 64) 0 = .ok (.aload_n 0, 1) := by decide +kernel
theorem gA_house_0 {Q : q_R} {M : q_M} {r : List Value} {a0 : Nat} {a1 : Option Value} : q_g 64 none Q 0 [some (.ref a0), a1] (r) M = q_g 64 none Q 1 [some (.ref a0), a1] (.ref a0 :: r) M := r_aload_n rfl d64_0
theorem d64_1 : decode (q_code 64) 1 = .ok (.getfield 19, 3) := by decide +kernel
theorem gA_house_1 {Q : q_R} {M : q_M} {r : List Value} {a0 : Nat} {a1 : Option Value} {s0 : Nat} : q_g 64 none Q 1 [some (.ref a0), a1] (.ref s0 :: r) M = (q_isC 3 s0 = true ∧ q_g 64 none Q 4 [some (.ref a0), a1] (.ref (q_rf s0 2) :: r) M) := r_getR (by decide +kernel) (by decide +kernel) d64_1
theorem d64_4 : decode (q_code 64) 4 = .ok (.aload_n 0, 1) := by decide +kernel
theorem gA_house_4 {Q : q_R} {M : q_M} {r : List Value} {a0 : Nat} {a1 : Option Value} : q_g 64 none Q 4 [some (.ref a0), a1] (r) M = q_g 64 none Q 5 [some (.ref a0), a1] (.ref a0 :: r) M := r_aload_n rfl d64_4
theorem d64_5 : decode (q_code 64) 5 = .ok (.getfield 10, 3) := by decide +kernel
theorem gA_house_5 {Q : q_R} {M : q_M} {r : List Value} {a0 : Nat} {a1 : Option Value} {s0 : Nat} : q_g 64 none Q 5 [some (.ref a0), a1] (.ref s0 :: r) M = (q_isC 3 s0 = true ∧ q_g 64 none Q 8 [some (.ref a0), a1] (.ref (q_rf s0 0) :: r) M) := r_getR (by decide +kernel) (by decide +kernel) d64_5
theorem d64_8 : decode (q_code 64) 8 = .ok (.invokevirtual 62, 3) := by decide +kernel
theorem gA_house_8 {Q : q_R} {M : q_M} {a0 : Nat} {a1 : Option Value} {s0 : Nat} {s1 : Nat} : q_g 64 none Q 8 [some (.ref a0), a1] ([.ref s0, .ref s1]) M = (q_isC 0 s1 = true ∧ q_Run 7 [.ref s1, .ref s0] M (fun v M' => q_g 64 none Q 11 [some (.ref a0), a1] (v.toList ++ []) M')) := r_call_virtual (k := 2) (by decide +kernel) (by decide +kernel) (Nat.le_of_ble_eq_true rfl) (Nat.le_of_ble_eq_true rfl) rfl rfl d64_8
theorem d64_11 : decode (q_code 64) 11 = .ok (.aload_n 0, 1) := by decide +kernel
theorem gA_house_11 {Q : q_R} {M : q_M} {r : List Value} {a0 : Nat} {a1 : Option Value} : q_g 64 none Q 11 [some (.ref a0), a1] (r) M = q_g 64 none Q 12 [some (.ref a0), a1] (.ref a0 :: r) M := r_aload_n rfl d64_11
theorem d64_12 : decode (q_code 64) 12 = .ok (.getfield 25, 3) := by decide +kernel
theorem gA_house_12 {Q : q_R} {M : q_M} {r : List Value} {a0 : Nat} {a1 : Option Value} {s0 : Nat} : q_g 64 none Q 12 [some (.ref a0), a1] (.ref s0 :: r) M = (q_isC 3 s0 = true ∧ q_g 64 none Q 15 [some (.ref a0), a1] (.ref (q_rf s0 3) :: r) M) := r_getR (by decide +kernel) (by decide +kernel) d64_12
theorem d64_15 : decode (q_code 64) 15 = .ok (.invokevirtual 66, 3) := by decide +kernel
theorem gA_house_15 {Q : q_R} {M : q_M} {a0 : Nat} {a1 : Option Value} {s0 : Nat} : q_g 64 none Q 15 [some (.ref a0), a1] ([.ref s0]) M = (q_isC 2 s0 = true ∧ q_Run 41 [.ref s0] M (fun v M' => q_g 64 none Q 18 [some (.ref a0), a1] (v.toList ++ []) M')) := r_call_virtual (k := 1) (by decide +kernel) (by decide +kernel) (Nat.le_of_ble_eq_true rfl) (Nat.le_of_ble_eq_true rfl) rfl rfl d64_15
theorem d64_18 : decode (q_code 64) 18 = .ok (.ifCond .eq 17, 3) := by decide +kernel
theorem gA_house_18 {Q : q_R} {M : q_M} {r : List Value} {a0 : Nat} {a1 : Option Value} {s0 : Int32} : q_g 64 none Q 18 [some (.ref a0), a1] (.int s0 :: r) M = (if s0 = 0 then q_g 64 none Q 35 [some (.ref a0), a1] (r) M else q_g 64 none Q 21 [some (.ref a0), a1] (r) M) := r_if_eq (by decide) (by decide) d64_18
theorem d64_21 : decode (q_code 64) 21 = .ok (.aload_n 0, 1) := by decide +kernel
theorem gA_house_21 {Q : q_R} {M : q_M} {r : List Value} {a0 : Nat} {a1 : Option Value} : q_g 64 none Q 21 [some (.ref a0), a1] (r) M = q_g 64 none Q 22 [some (.ref a0), a1] (.ref a0 :: r) M := r_aload_n rfl d64_21
theorem d64_22 : decode (q_code 64) 22 = .ok (.getfield 25, 3) := by decide +kernel
theorem gA_house_22 {Q : q_R} {M : q_M} {r : List Value} {a0 : Nat} {a1 : Option Value} {s0 : Nat} : q_g 64 none Q 22 [some (.ref a0), a1] (.ref s0 :: r) M = (q_isC 3 s0 = true ∧ q_g 64 none Q 25 [some (.ref a0), a1] (.ref (q_rf s0 3) :: r) M) := r_getR (by decide +kernel) (by decide +kernel) d64_22
theorem d64_25 : decode (q_code 64) 25 = .ok (.aload_n 0, 1) := by decide +kernel
theorem gA_house_25 {Q : q_R} {M : q_M} {r : List Value} {a0 : Nat} {a1 : Option Value} : q_g 64 none Q 25 [some (.ref a0), a1] (r) M = q_g 64 none Q 26 [some (.ref a0), a1] (.ref a0 :: r) M := r_aload_n rfl d64_25
theorem d64_26 : decode (q_code 64) 26 = .ok (.getfield 19, 3) := by decide +kernel
theorem gA_house_26 {Q : q_R} {M : q_M} {r : List Value} {a0 : Nat} {a1 : Option Value} {s0 : Nat} : q_g 64 none Q 26 [some (.ref a0), a1] (.ref s0 :: r) M = (q_isC 3 s0 = true ∧ q_g 64 none Q 29 [some (.ref a0), a1] (.ref (q_rf s0 2) :: r) M) := r_getR (by decide +kernel) (by decide +kernel) d64_26
theorem d64_29 : decode (q_code 64) 29 = .ok (.invokevirtual 69, 3) := by decide +kernel
theorem gA_house_29 {Q : q_R} {M : q_M} {a0 : Nat} {a1 : Option Value} {s0 : Nat} {s1 : Nat} : q_g 64 none Q 29 [some (.ref a0), a1] ([.ref s0, .ref s1]) M = (q_isC 2 s1 = true ∧ q_Run 42 [.ref s1, .ref s0] M (fun v M' => q_g 64 none Q 32 [some (.ref a0), a1] (v.toList ++ []) M')) := r_call_virtual (k := 2) (by decide +kernel) (by decide +kernel) (Nat.le_of_ble_eq_true rfl) (Nat.le_of_ble_eq_true rfl) rfl rfl d64_29
theorem d64_32 : decode (q_code 64) 32 = .ok (.goto 10, 3) := by decide +kernel
theorem gA_house_32 {Q : q_R} {M : q_M} {r : List Value} {a0 : Nat} {a1 : Option Value} : q_g 64 none Q 32 [some (.ref a0), a1] (r) M = q_g 64 none Q 42 [some (.ref a0), a1] (r) M := r_goto (by decide) (by decide) d64_32
theorem d64_35 : decode (q_code 64) 35 = .ok (.aload_n 0, 1) := by decide +kernel
theorem gA_house_35 {Q : q_R} {M : q_M} {r : List Value} {a0 : Nat} {a1 : Option Value} : q_g 64 none Q 35 [some (.ref a0), a1] (r) M = q_g 64 none Q 36 [some (.ref a0), a1] (.ref a0 :: r) M := r_aload_n rfl d64_35
theorem d64_36 : decode (q_code 64) 36 = .ok (.getfield 25, 3) := by decide +kernel
theorem gA_house_36 {Q : q_R} {M : q_M} {r : List Value} {a0 : Nat} {a1 : Option Value} {s0 : Nat} : q_g 64 none Q 36 [some (.ref a0), a1] (.ref s0 :: r) M = (q_isC 3 s0 = true ∧ q_g 64 none Q 39 [some (.ref a0), a1] (.ref (q_rf s0 3) :: r) M) := r_getR (by decide +kernel) (by decide +kernel) d64_36
theorem d64_39 : decode (q_code 64) 39 = .ok (.invokevirtual 73, 3) := by decide +kernel
theorem gA_house_39 {Q : q_R} {M : q_M} {a0 : Nat} {a1 : Option Value} {s0 : Nat} : q_g 64 none Q 39 [some (.ref a0), a1] ([.ref s0]) M = (q_isC 2 s0 = true ∧ q_Run 28 [.ref s0] M (fun v M' => q_g 64 none Q 42 [some (.ref a0), a1] (v.toList ++ []) M')) := r_call_virtual (k := 1) (by decide +kernel) (by decide +kernel) (Nat.le_of_ble_eq_true rfl) (Nat.le_of_ble_eq_true rfl) rfl rfl d64_39
theorem d64_42 : decode (q_code 64) 42 = .ok (.istore_n 1, 1) := by decide +kernel
theorem gA_house_42 {Q : q_R} {M : q_M} {r : List Value} {a0 : Nat} {a1 : Option Value} {s0 : Int32} : q_g 64 none Q 42 [some (.ref a0), a1] (.int s0 :: r) M = q_g 64 none Q 43 [some (.ref a0), some (.int s0)] (r) M := r_istore_n (Nat.le_of_ble_eq_true rfl) d64_42
theorem d64_43 : decode (q_code 64) 43 = .ok (.iload_n 1, 1) := by decide +kernel
theorem gA_house_43 {Q : q_R} {M : q_M} {r : List Value} {a0 : Nat} {a1 : Int32} : q_g 64 none Q 43 [some (.ref a0), some (.int a1)] (r) M = q_g 64 none Q 44 [some (.ref a0), some (.int a1)] (.int a1 :: r) M := r_iload_n rfl d64_43
theorem d64_44 : decode (q_code 64) 44 = .ok (.ifCond .lt 14, 3) := by decide +kernel
theorem gA_house_44 {Q : q_R} {M : q_M} {r : List Value} {a0 : Nat} {a1 : Int32} {s0 : Int32} : q_g 64 none Q 44 [some (.ref a0), some (.int a1)] (.int s0 :: r) M = (if s0 < 0 then q_g 64 none Q 58 [some (.ref a0), some (.int a1)] (r) M else q_g 64 none Q 47 [some (.ref a0), some (.int a1)] (r) M) := r_if_lt (by decide) (by decide) d64_44
theorem d64_47 : decode (q_code 64) 47 = .ok (.aload_n 0, 1) := by decide +kernel
theorem gA_house_47 {Q : q_R} {M : q_M} {r : List Value} {a0 : Nat} {a1 : Int32} : q_g 64 none Q 47 [some (.ref a0), some (.int a1)] (r) M = q_g 64 none Q 48 [some (.ref a0), some (.int a1)] (.ref a0 :: r) M := r_aload_n rfl d64_47
theorem d64_48 : decode (q_code 64) 48 = .ok (.getfield 10, 3) := by decide +kernel
theorem gA_house_48 {Q : q_R} {M : q_M} {r : List Value} {a0 : Nat} {a1 : Int32} {s0 : Nat} : q_g 64 none Q 48 [some (.ref a0), some (.int a1)] (.ref s0 :: r) M = (q_isC 3 s0 = true ∧ q_g 64 none Q 51 [some (.ref a0), some (.int a1)] (.ref (q_rf s0 0) :: r) M) := r_getR (by decide +kernel) (by decide +kernel) d64_48
theorem d64_51 : decode (q_code 64) 51 = .ok (.aload_n 0, 1) := by decide +kernel
theorem gA_house_51 {Q : q_R} {M : q_M} {r : List Value} {a0 : Nat} {a1 : Int32} : q_g 64 none Q 51 [some (.ref a0), some (.int a1)] (r) M = q_g 64 none Q 52 [some (.ref a0), some (.int a1)] (.ref a0 :: r) M := r_aload_n rfl d64_51
theorem d64_52 : decode (q_code 64) 52 = .ok (.getfield 19, 3) := by decide +kernel
theorem gA_house_52 {Q : q_R} {M : q_M} {r : List Value} {a0 : Nat} {a1 : Int32} {s0 : Nat} : q_g 64 none Q 52 [some (.ref a0), some (.int a1)] (.ref s0 :: r) M = (q_isC 3 s0 = true ∧ q_g 64 none Q 55 [some (.ref a0), some (.int a1)] (.ref (q_rf s0 2) :: r) M) := r_getR (by decide +kernel) (by decide +kernel) d64_52
theorem d64_55 : decode (q_code 64) 55 = .ok (.invokevirtual 62, 3) := by decide +kernel
theorem gA_house_55 {Q : q_R} {M : q_M} {a0 : Nat} {a1 : Int32} {s0 : Nat} {s1 : Nat} : q_g 64 none Q 55 [some (.ref a0), some (.int a1)] ([.ref s0, .ref s1]) M = (q_isC 0 s1 = true ∧ q_Run 7 [.ref s1, .ref s0] M (fun v M' => q_g 64 none Q 58 [some (.ref a0), some (.int a1)] (v.toList ++ []) M')) := r_call_virtual (k := 2) (by decide +kernel) (by decide +kernel) (Nat.le_of_ble_eq_true rfl) (Nat.le_of_ble_eq_true rfl) rfl rfl d64_55
theorem d64_58 : decode (q_code 64) 58 = .ok (.aload_n 0, 1) := by decide +kernel
theorem gA_house_58 {Q : q_R} {M : q_M} {r : List Value} {a0 : Nat} {a1 : Int32} : q_g 64 none Q 58 [some (.ref a0), some (.int a1)] (r) M = q_g 64 none Q 59 [some (.ref a0), some (.int a1)] (.ref a0 :: r) M := r_aload_n rfl d64_58
theorem d64_59 : decode (q_code 64) 59 = .ok (.getfield 25, 3) := by decide +kernel
theorem gA_house_59 {Q : q_R} {M : q_M} {r : List Value} {a0 : Nat} {a1 : Int32} {s0 : Nat} : q_g 64 none Q 59 [some (.ref a0), some (.int a1)] (.ref s0 :: r) M = (q_isC 3 s0 = true ∧ q_g 64 none Q 62 [some (.ref a0), some (.int a1)] (.ref (q_rf s0 3) :: r) M) := r_getR (by decide +kernel) (by decide +kernel) d64_59
theorem d64_62 : decode (q_code 64) 62 = .ok (.invokevirtual 77, 3) := by decide +kernel
theorem gA_house_62 {Q : q_R} {M : q_M} {a0 : Nat} {a1 : Int32} {s0 : Nat} : q_g 64 none Q 62 [some (.ref a0), some (.int a1)] ([.ref s0]) M = (q_isC 2 s0 = true ∧ q_Run 29 [.ref s0] M (fun v M' => q_g 64 none Q 65 [some (.ref a0), some (.int a1)] (v.toList ++ []) M')) := r_call_virtual (k := 1) (by decide +kernel) (by decide +kernel) (Nat.le_of_ble_eq_true rfl) (Nat.le_of_ble_eq_true rfl) rfl rfl d64_62
theorem d64_65 : decode (q_code 64) 65 = .ok (.iload_n 1, 1) := by decide +kernel
theorem gA_house_65 {Q : q_R} {M : q_M} {r : List Value} {a0 : Nat} {a1 : Int32} : q_g 64 none Q 65 [some (.ref a0), some (.int a1)] (r) M = q_g 64 none Q 66 [some (.ref a0), some (.int a1)] (.int a1 :: r) M := r_iload_n rfl d64_65
theorem d64_66 : decode (q_code 64) 66 = .ok (.ireturn, 1) := by decide +kernel
theorem gA_house_66 {Q : q_R} {M : q_M} {a0 : Nat} {a1 : Int32} {s0 : Int32} : q_g 64 none Q 66 [some (.ref a0), some (.int a1)] ([.int s0]) M = Q (some (.int s0)) M := r_iret (r := []) (by decide +kernel) d64_66
theorem e_A_image {Q : q_R} {M : q_M} {a0 : Nat} : q_Run 65 [.ref a0] M Q = q_g 65 none Q 0 [some (.ref a0)] [] M := q_entry (Nat.le_of_ble_eq_true rfl) rfl
theorem d65_0 : decode (q_code 65) 0 = .ok (.aload_n 0, 1) := by decide +kernel
theorem gA_image_0 {Q : q_R} {M : q_M} {r : List Value} {a0 : Nat} : q_g 65 none Q 0 [some (.ref a0)] (r) M = q_g 65 none Q 1 [some (.ref a0)] (.ref a0 :: r) M := r_aload_n rfl d65_0
theorem d65_1 : decode (q_code 65) 1 = .ok (.getfield 16, 3) := by decide +kernel
theorem gA_image_1 {Q : q_R} {M : q_M} {r : List Value} {a0 : Nat} {s0 : Nat} : q_g 65 none Q 1 [some (.ref a0)] (.ref s0 :: r) M = (q_isC 3 s0 = true ∧ q_g 65 none Q 4 [some (.ref a0)] (.ref (q_rf s0 1) :: r) M) := r_getR (by decide +kernel) (by decide +kernel) d65_1
theorem d65_4 : decode (q_code 65) 4 = .ok (.aload_n 0, 1) := by decide +kernel
theorem gA_image_4 {Q : q_R} {M : q_M} {r : List Value} {a0 : Nat} : q_g 65 none Q 4 [some (.ref a0)] (r) M = q_g 65 none Q 5 [some (.ref a0)] (.ref a0 :: r) M := r_aload_n rfl d65_4
theorem d65_5 : decode (q_code 65) 5 = .ok (.getfield 10, 3) := by decide +kernel
theorem gA_image_5 {Q : q_R} {M : q_M} {r : List Value} {a0 : Nat} {s0 : Nat} : q_g 65 none Q 5 [some (.ref a0)] (.ref s0 :: r) M = (q_isC 3 s0 = true ∧ q_g 65 none Q 8 [some (.ref a0)] (.ref (q_rf s0 0) :: r) M) := r_getR (by decide +kernel) (by decide +kernel) d65_5
theorem d65_8 : decode (q_code 65) 8 = .ok (.invokevirtual 62, 3) := by decide +kernel
theorem gA_image_8 {Q : q_R} {M : q_M} {a0 : Nat} {s0 : Nat} {s1 : Nat} : q_g 65 none Q 8 [some (.ref a0)] ([.ref s0, .ref s1]) M = (q_isC 0 s1 = true ∧ q_Run 7 [.ref s1, .ref s0] M (fun v M' => q_g 65 none Q 11 [some (.ref a0)] (v.toList ++ []) M')) := r_call_virtual (k := 2) (by decide +kernel) (by decide +kernel) (Nat.le_of_ble_eq_true rfl) (Nat.le_of_ble_eq_true rfl) rfl rfl d65_8
theorem d65_11 : decode (q_code 65) 11 = .ok (.aload_n 0, 1) := by decide +kernel
theorem gA_image_11 {Q : q_R} {M : q_M} {r : List Value} {a0 : Nat} : q_g 65 none Q 11 [some (.ref a0)] (r) M = q_g 65 none Q 12 [some (.ref a0)] (.ref a0 :: r) M := r_aload_n rfl d65_11
theorem d65_12 : decode (q_code 65) 12 = .ok (.iconst 1, 1) := by decide +kernel
theorem gA_image_12 {Q : q_R} {M : q_M} {r : List Value} {a0 : Nat} : q_g 65 none Q 12 [some (.ref a0)] (r) M = q_g 65 none Q 13 [some (.ref a0)] (.int 1 :: r) M := r_iconst (by decide) d65_12
theorem d65_13 : decode (q_code 65) 13 = .ok (.putfield 47, 3) := by decide +kernel
theorem gA_image_13 {Q : q_R} {M : q_M} {r : List Value} {a0 : Nat} {s0 : Int32} {s1 : Nat} : q_g 65 none Q 13 [some (.ref a0)] (.int s0 :: .ref s1 :: r) M = (q_isC 3 s1 = true ∧ ((s0 = 0 ∨ s0 = 1) ∧ q_g 65 none Q 16 [some (.ref a0)] (r) (q_put M s1 8 s0))) := r_putB (by decide +kernel) (by decide +kernel) (by decide +kernel) d65_13
theorem d65_16 : decode (q_code 65) 16 = .ok (.aload_n 0, 1) := by decide +kernel
theorem gA_image_16 {Q : q_R} {M : q_M} {r : List Value} {a0 : Nat} : q_g 65 none Q 16 [some (.ref a0)] (r) M = q_g 65 none Q 17 [some (.ref a0)] (.ref a0 :: r) M := r_aload_n rfl d65_16
theorem d65_17 : decode (q_code 65) 17 = .ok (.getfield 10, 3) := by decide +kernel
theorem gA_image_17 {Q : q_R} {M : q_M} {r : List Value} {a0 : Nat} {s0 : Nat} : q_g 65 none Q 17 [some (.ref a0)] (.ref s0 :: r) M = (q_isC 3 s0 = true ∧ q_g 65 none Q 20 [some (.ref a0)] (.ref (q_rf s0 0) :: r) M) := r_getR (by decide +kernel) (by decide +kernel) d65_17
theorem d65_20 : decode (q_code 65) 20 = .ok (.getfield 107, 3) := by decide +kernel
theorem gA_image_20 {Q : q_R} {M : q_M} {r : List Value} {a0 : Nat} {s0 : Nat} : q_g 65 none Q 20 [some (.ref a0)] (.ref s0 :: r) M = (q_isC 0 s0 = true ∧ q_g 65 none Q 23 [some (.ref a0)] (.int (M s0 8) :: r) M) := r_getI (by decide +kernel) (by decide +kernel) d65_20
theorem d65_23 : decode (q_code 65) 23 = .ok (.ireturn, 1) := by decide +kernel
theorem gA_image_23 {Q : q_R} {M : q_M} {a0 : Nat} {s0 : Int32} : q_g 65 none Q 23 [some (.ref a0)] ([.int s0]) M = Q (some (.int s0)) M := r_iret (r := []) (by decide +kernel) d65_23
theorem e_A_isNoPart {Q : q_R} {M : q_M} {a0 : Int32} : q_Run 66 [.int a0] M Q = q_g 66 none Q 0 [some (.int a0)] [] M := q_entry (Nat.le_of_ble_eq_true rfl) rfl
theorem d66_0 : decode (q_code 66) 0 = .ok (.iload_n 0, 1) := by decide +kernel
theorem gA_isNoPart_0 {Q : q_R} {M : q_M} {r : List Value} {a0 : Int32} : q_g 66 none Q 0 [some (.int a0)] (r) M = q_g 66 none Q 1 [some (.int a0)] (.int a0 :: r) M := r_iload_n rfl d66_0
theorem d66_1 : decode (q_code 66) 1 = .ok (.ifCond .lt 8, 3) := by decide +kernel
theorem gA_isNoPart_1 {Q : q_R} {M : q_M} {r : List Value} {a0 : Int32} {s0 : Int32} : q_g 66 none Q 1 [some (.int a0)] (.int s0 :: r) M = (if s0 < 0 then q_g 66 none Q 9 [some (.int a0)] (r) M else q_g 66 none Q 4 [some (.int a0)] (r) M) := r_if_lt (by decide) (by decide) d66_1
theorem d66_4 : decode (q_code 66) 4 = .ok (.iload_n 0, 1) := by decide +kernel
theorem gA_isNoPart_4 {Q : q_R} {M : q_M} {r : List Value} {a0 : Int32} : q_g 66 none Q 4 [some (.int a0)] (r) M = q_g 66 none Q 5 [some (.int a0)] (.int a0 :: r) M := r_iload_n rfl d66_4
theorem d66_5 : decode (q_code 66) 5 = .ok (.iconst 1, 1) := by decide +kernel
theorem gA_isNoPart_5 {Q : q_R} {M : q_M} {r : List Value} {a0 : Int32} : q_g 66 none Q 5 [some (.int a0)] (r) M = q_g 66 none Q 6 [some (.int a0)] (.int 1 :: r) M := r_iconst (by decide) d66_5
theorem d66_6 : decode (q_code 66) 6 = .ok (.if_icmp .le 7, 3) := by decide +kernel
theorem gA_isNoPart_6 {Q : q_R} {M : q_M} {r : List Value} {a0 : Int32} {s0 : Int32} {s1 : Int32} : q_g 66 none Q 6 [some (.int a0)] (.int s0 :: .int s1 :: r) M = (if s1 ≤ s0 then q_g 66 none Q 13 [some (.int a0)] (r) M else q_g 66 none Q 9 [some (.int a0)] (r) M) := r_icmp_le (by decide) (by decide) d66_6
theorem d66_9 : decode (q_code 66) 9 = .ok (.iconst 1, 1) := by decide +kernel
theorem gA_isNoPart_9 {Q : q_R} {M : q_M} {r : List Value} {a0 : Int32} : q_g 66 none Q 9 [some (.int a0)] (r) M = q_g 66 none Q 10 [some (.int a0)] (.int 1 :: r) M := r_iconst (by decide) d66_9
theorem d66_10 : decode (q_code 66) 10 = .ok (.goto 4, 3) := by decide +kernel
theorem gA_isNoPart_10 {Q : q_R} {M : q_M} {r : List Value} {a0 : Int32} : q_g 66 none Q 10 [some (.int a0)] (r) M = q_g 66 none Q 14 [some (.int a0)] (r) M := r_goto (by decide) (by decide) d66_10
theorem d66_13 : decode (q_code 66) 13 = .ok (.iconst 0, 1) := by decide +kernel
theorem gA_isNoPart_13 {Q : q_R} {M : q_M} {r : List Value} {a0 : Int32} : q_g 66 none Q 13 [some (.int a0)] (r) M = q_g 66 none Q 14 [some (.int a0)] (.int 0 :: r) M := r_iconst (by decide) d66_13
theorem d66_14 : decode (q_code 66) 14 = .ok (.ireturn, 1) := by decide +kernel
theorem gA_isNoPart_14 {Q : q_R} {M : q_M} {a0 : Int32} {s0 : Int32} : q_g 66 none Q 14 [some (.int a0)] ([.int s0]) M = ((s0 = 0 ∨ s0 = 1) ∧ Q (some (.int s0)) M) := r_zret (r := []) (by decide +kernel) d66_14
theorem e_A_isNoSeeker {Q : q_R} {M : q_M} {a0 : Int32} : q_Run 67 [.int a0] M Q = q_g 67 none Q 0 [some (.int a0)] [] M := q_entry (Nat.le_of_ble_eq_true rfl) rfl
theorem d67_0 : decode (q_code 67) 0 = .ok (.iload_n 0, 1) := by decide +kernel
theorem gA_isNoSeeker_0 {Q : q_R} {M : q_M} {r : List Value} {a0 : Int32} : q_g 67 none Q 0 [some (.int a0)] (r) M = q_g 67 none Q 1 [some (.int a0)] (.int a0 :: r) M := r_iload_n rfl d67_0
theorem d67_1 : decode (q_code 67) 1 = .ok (.ifCond .lt 8, 3) := by decide +kernel
theorem gA_isNoSeeker_1 {Q : q_R} {M : q_M} {r : List Value} {a0 : Int32} {s0 : Int32} : q_g 67 none Q 1 [some (.int a0)] (.int s0 :: r) M = (if s0 < 0 then q_g 67 none Q 9 [some (.int a0)] (r) M else q_g 67 none Q 4 [some (.int a0)] (r) M) := r_if_lt (by decide) (by decide) d67_1
theorem d67_4 : decode (q_code 67) 4 = .ok (.iload_n 0, 1) := by decide +kernel
theorem gA_isNoSeeker_4 {Q : q_R} {M : q_M} {r : List Value} {a0 : Int32} : q_g 67 none Q 4 [some (.int a0)] (r) M = q_g 67 none Q 5 [some (.int a0)] (.int a0 :: r) M := r_iload_n rfl d67_4
theorem d67_5 : decode (q_code 67) 5 = .ok (.iconst 5, 1) := by decide +kernel
theorem gA_isNoSeeker_5 {Q : q_R} {M : q_M} {r : List Value} {a0 : Int32} : q_g 67 none Q 5 [some (.int a0)] (r) M = q_g 67 none Q 6 [some (.int a0)] (.int 5 :: r) M := r_iconst (by decide) d67_5
theorem d67_6 : decode (q_code 67) 6 = .ok (.if_icmp .le 7, 3) := by decide +kernel
theorem gA_isNoSeeker_6 {Q : q_R} {M : q_M} {r : List Value} {a0 : Int32} {s0 : Int32} {s1 : Int32} : q_g 67 none Q 6 [some (.int a0)] (.int s0 :: .int s1 :: r) M = (if s1 ≤ s0 then q_g 67 none Q 13 [some (.int a0)] (r) M else q_g 67 none Q 9 [some (.int a0)] (r) M) := r_icmp_le (by decide) (by decide) d67_6
theorem d67_9 : decode (q_code 67) 9 = .ok (.iconst 1, 1) := by decide +kernel
theorem gA_isNoSeeker_9 {Q : q_R} {M : q_M} {r : List Value} {a0 : Int32} : q_g 67 none Q 9 [some (.int a0)] (r) M = q_g 67 none Q 10 [some (.int a0)] (.int 1 :: r) M := r_iconst (by decide) d67_9
theorem d67_10 : decode (q_code 67) 10 = .ok (.goto 4, 3) := by decide +kernel
theorem gA_isNoSeeker_10 {Q : q_R} {M : q_M} {r : List Value} {a0 : Int32} : q_g 67 none Q 10 [some (.int a0)] (r) M = q_g 67 none Q 14 [some (.int a0)] (r) M := r_goto (by decide) (by decide) d67_10
theorem d67_13 : decode (q_code 67) 13 = .ok (.iconst 0, 1) := by decide +kernel
theorem gA_isNoSeeker_13 {Q : q_R} {M : q_M} {r : List Value} {a0 : Int32} : q_g 67 none Q 13 [some (.int a0)] (r) M = q_g 67 none Q 14 [some (.int a0)] (.int 0 :: r) M := r_iconst (by decide) d67_13
theorem d67_14 : decode (q_code 67) 14 = .ok (.ireturn, 1) := by decide +kernel
theorem gA_isNoSeeker_14 {Q : q_R} {M : q_M} {a0 : Int32} {s0 : Int32} : q_g 67 none Q 14 [some (.int a0)] ([.int s0]) M = ((s0 = 0 ∨ s0 = 1) ∧ Q (some (.int s0)) M) := r_zret (r := []) (by decide +kernel) d67_14
theorem e_A_judge {Q : q_R} {M : q_M} {a0 : Nat} : q_Run 68 [.ref a0] M Q = q_g 68 none Q 0 [some (.ref a0), none] [] M := q_entry (Nat.le_of_ble_eq_true rfl) rfl
theorem d68_0 : decode (q_code 68) 0 = .ok (.aload_n 0, 1) := by decide +kernel
theorem gA_judge_0 {Q : q_R} {M : q_M} {r : List Value} {a0 : Nat} {a1 : Option Value} : q_g 68 none Q 0 [some (.ref a0), a1] (r) M = q_g 68 none Q 1 [some (.ref a0), a1] (.ref a0 :: r) M := r_aload_n rfl d68_0
theorem d68_1 : decode (q_code 68) 1 = .ok (.getfield 10, 3) := by decide +kernel
theorem gA_judge_1 {Q : q_R} {M : q_M} {r : List Value} {a0 : Nat} {a1 : Option Value} {s0 : Nat} : q_g 68 none Q 1 [some (.ref a0), a1] (.ref s0 :: r) M = (q_isC 3 s0 = true ∧ q_g 68 none Q 4 [some (.ref a0), a1] (.ref (q_rf s0 0) :: r) M) := r_getR (by decide +kernel) (by decide +kernel) d68_1
theorem d68_4 : decode (q_code 68) 4 = .ok (.aload_n 0, 1) := by decide +kernel
theorem gA_judge_4 {Q : q_R} {M : q_M} {r : List Value} {a0 : Nat} {a1 : Option Value} : q_g 68 none Q 4 [some (.ref a0), a1] (r) M = q_g 68 none Q 5 [some (.ref a0), a1] (.ref a0 :: r) M := r_aload_n rfl d68_4
theorem d68_5 : decode (q_code 68) 5 = .ok (.getfield 36, 3) := by decide +kernel
theorem gA_judge_5 {Q : q_R} {M : q_M} {r : List Value} {a0 : Nat} {a1 : Option Value} {s0 : Nat} : q_g 68 none Q 5 [some (.ref a0), a1] (.ref s0 :: r) M = (q_isC 3 s0 = true ∧ q_g 68 none Q 8 [some (.ref a0), a1] (.ref (q_rf s0 5) :: r) M) := r_getR (by decide +kernel) (by decide +kernel) d68_5
theorem d68_8 : decode (q_code 68) 8 = .ok (.aload_n 0, 1) := by decide +kernel
theorem gA_judge_8 {Q : q_R} {M : q_M} {r : List Value} {a0 : Nat} {a1 : Option Value} : q_g 68 none Q 8 [some (.ref a0), a1] (r) M = q_g 68 none Q 9 [some (.ref a0), a1] (.ref a0 :: r) M := r_aload_n rfl d68_8
theorem d68_9 : decode (q_code 68) 9 = .ok (.getfield 43, 3) := by decide +kernel
theorem gA_judge_9 {Q : q_R} {M : q_M} {r : List Value} {a0 : Nat} {a1 : Option Value} {s0 : Nat} : q_g 68 none Q 9 [some (.ref a0), a1] (.ref s0 :: r) M = (q_isC 3 s0 = true ∧ q_g 68 none Q 12 [some (.ref a0), a1] (.int (M s0 7) :: r) M) := r_getI (by decide +kernel) (by decide +kernel) d68_9
theorem d68_12 : decode (q_code 68) 12 = .ok (.invokestatic 217, 3) := by decide +kernel
theorem gA_judge_12 {Q : q_R} {M : q_M} {a0 : Nat} {a1 : Option Value} {s0 : Int32} {s1 : Nat} {s2 : Nat} : q_g 68 none Q 12 [some (.ref a0), a1] ([.int s0, .ref s1, .ref s2]) M = q_Run 47 [.ref s2, .ref s1, .int s0] M (fun v M' => q_g 68 none Q 15 [some (.ref a0), a1] (v.toList ++ []) M') := r_call_static (k := 3) (by decide +kernel) (by decide +kernel) (by decide +kernel) (Nat.le_of_ble_eq_true rfl) (Nat.le_of_ble_eq_true rfl) rfl rfl d68_12
theorem d68_15 : decode (q_code 68) 15 = .ok (.istore_n 1, 1) := by decide +kernel
theorem gA_judge_15 {Q : q_R} {M : q_M} {r : List Value} {a0 : Nat} {a1 : Option Value} {s0 : Int32} : q_g 68 none Q 15 [some (.ref a0), a1] (.int s0 :: r) M = q_g 68 none Q 16 [some (.ref a0), some (.int s0)] (r) M := r_istore_n (Nat.le_of_ble_eq_true rfl) d68_15
theorem d68_16 : decode (q_code 68) 16 = .ok (.aload_n 0, 1) := by decide +kernel
theorem gA_judge_16 {Q : q_R} {M : q_M} {r : List Value} {a0 : Nat} {a1 : Int32} : q_g 68 none Q 16 [some (.ref a0), some (.int a1)] (r) M = q_g 68 none Q 17 [some (.ref a0), some (.int a1)] (.ref a0 :: r) M := r_aload_n rfl d68_16
theorem d68_17 : decode (q_code 68) 17 = .ok (.iconst 0, 1) := by decide +kernel
theorem gA_judge_17 {Q : q_R} {M : q_M} {r : List Value} {a0 : Nat} {a1 : Int32} : q_g 68 none Q 17 [some (.ref a0), some (.int a1)] (r) M = q_g 68 none Q 18 [some (.ref a0), some (.int a1)] (.int 0 :: r) M := r_iconst (by decide) d68_17
theorem d68_18 : decode (q_code 68) 18 = .ok (.putfield 43, 3) := by decide +kernel
theorem gA_judge_18 {Q : q_R} {M : q_M} {r : List Value} {a0 : Nat} {a1 : Int32} {s0 : Int32} {s1 : Nat} : q_g 68 none Q 18 [some (.ref a0), some (.int a1)] (.int s0 :: .ref s1 :: r) M = (q_isC 3 s1 = true ∧ q_g 68 none Q 21 [some (.ref a0), some (.int a1)] (r) (q_put M s1 7 s0)) := r_putI (by decide +kernel) (by decide +kernel) (by decide +kernel) d68_18
theorem d68_21 : decode (q_code 68) 21 = .ok (.iload_n 1, 1) := by decide +kernel
theorem gA_judge_21 {Q : q_R} {M : q_M} {r : List Value} {a0 : Nat} {a1 : Int32} : q_g 68 none Q 21 [some (.ref a0), some (.int a1)] (r) M = q_g 68 none Q 22 [some (.ref a0), some (.int a1)] (.int a1 :: r) M := r_iload_n rfl d68_21
theorem d68_22 : decode (q_code 68) 22 = .ok (.ireturn, 1) := by decide +kernel
theorem gA_judge_22 {Q : q_R} {M : q_M} {a0 : Nat} {a1 : Int32} {s0 : Int32} : q_g 68 none Q 22 [some (.ref a0), some (.int a1)] ([.int s0]) M = Q (some (.int s0)) M := r_iret (r := []) (by decide +kernel) d68_22
theorem e_A_letter {Q : q_R} {M : q_M} {a0 : Nat} {a1 : Int32} : q_Run 69 [.ref a0, .int a1] M Q = q_g 69 none Q 0 [some (.ref a0), some (.int a1)] [] M := q_entry (Nat.le_of_ble_eq_true rfl) rfl
theorem d69_0 : decode (q_code 69) 0 = .ok (.iload_n 1, 1) := by decide +kernel
theorem gA_letter_0 {Q : q_R} {M : q_M} {r : List Value} {a0 : Nat} {a1 : Int32} : q_g 69 none Q 0 [some (.ref a0), some (.int a1)] (r) M = q_g 69 none Q 1 [some (.ref a0), some (.int a1)] (.int a1 :: r) M := r_iload_n rfl d69_0
theorem d69_1 : decode (q_code 69) 1 = .ok (.ifCond .ge 10, 3) := by decide +kernel
theorem gA_letter_1 {Q : q_R} {M : q_M} {r : List Value} {a0 : Nat} {a1 : Int32} {s0 : Int32} : q_g 69 none Q 1 [some (.ref a0), some (.int a1)] (.int s0 :: r) M = (if 0 ≤ s0 then q_g 69 none Q 11 [some (.ref a0), some (.int a1)] (r) M else q_g 69 none Q 4 [some (.ref a0), some (.int a1)] (r) M) := r_if_ge (by decide) (by decide) d69_1
theorem d69_4 : decode (q_code 69) 4 = .ok (.aload_n 0, 1) := by decide +kernel
theorem gA_letter_4 {Q : q_R} {M : q_M} {r : List Value} {a0 : Nat} {a1 : Int32} : q_g 69 none Q 4 [some (.ref a0), some (.int a1)] (r) M = q_g 69 none Q 5 [some (.ref a0), some (.int a1)] (.ref a0 :: r) M := r_aload_n rfl d69_4
theorem d69_5 : decode (q_code 69) 5 = .ok (.bipush (-4), 2) := by decide +kernel
theorem gA_letter_5 {Q : q_R} {M : q_M} {r : List Value} {a0 : Nat} {a1 : Int32} : q_g 69 none Q 5 [some (.ref a0), some (.int a1)] (r) M = q_g 69 none Q 7 [some (.ref a0), some (.int a1)] (.int (-4) :: r) M := r_bipush (by decide) d69_5
theorem d69_7 : decode (q_code 69) 7 = .ok (.invokevirtual 51, 3) := by decide +kernel
theorem gA_letter_7 {Q : q_R} {M : q_M} {a0 : Nat} {a1 : Int32} {s0 : Int32} {s1 : Nat} : q_g 69 none Q 7 [some (.ref a0), some (.int a1)] ([.int s0, .ref s1]) M = (q_isC 3 s1 = true ∧ q_Run 79 [.ref s1, .int s0] M (fun v M' => q_g 69 none Q 10 [some (.ref a0), some (.int a1)] (v.toList ++ []) M')) := r_call_virtual (k := 2) (by decide +kernel) (by decide +kernel) (Nat.le_of_ble_eq_true rfl) (Nat.le_of_ble_eq_true rfl) rfl rfl d69_7
theorem d69_10 : decode (q_code 69) 10 = .ok (.ireturn, 1) := by decide +kernel
theorem gA_letter_10 {Q : q_R} {M : q_M} {a0 : Nat} {a1 : Int32} {s0 : Int32} : q_g 69 none Q 10 [some (.ref a0), some (.int a1)] ([.int s0]) M = Q (some (.int s0)) M := r_iret (r := []) (by decide +kernel) d69_10
theorem d69_11 : decode (q_code 69) 11 = .ok (.iload_n 1, 1) := by decide +kernel
theorem gA_letter_11 {Q : q_R} {M : q_M} {r : List Value} {a0 : Nat} {a1 : Int32} : q_g 69 none Q 11 [some (.ref a0), some (.int a1)] (r) M = q_g 69 none Q 12 [some (.ref a0), some (.int a1)] (.int a1 :: r) M := r_iload_n rfl d69_11
theorem d69_12 : decode (q_code 69) 12 = .ok (.sipush 255, 3) := by decide +kernel
theorem gA_letter_12 {Q : q_R} {M : q_M} {r : List Value} {a0 : Nat} {a1 : Int32} : q_g 69 none Q 12 [some (.ref a0), some (.int a1)] (r) M = q_g 69 none Q 15 [some (.ref a0), some (.int a1)] (.int 255 :: r) M := r_sipush (by decide) d69_12
theorem d69_15 : decode (q_code 69) 15 = .ok (.if_icmp .gt 13, 3) := by decide +kernel
theorem gA_letter_15 {Q : q_R} {M : q_M} {r : List Value} {a0 : Nat} {a1 : Int32} {s0 : Int32} {s1 : Int32} : q_g 69 none Q 15 [some (.ref a0), some (.int a1)] (.int s0 :: .int s1 :: r) M = (if s0 < s1 then q_g 69 none Q 28 [some (.ref a0), some (.int a1)] (r) M else q_g 69 none Q 18 [some (.ref a0), some (.int a1)] (r) M) := r_icmp_gt (by decide) (by decide) d69_15
theorem d69_18 : decode (q_code 69) 18 = .ok (.aload_n 0, 1) := by decide +kernel
theorem gA_letter_18 {Q : q_R} {M : q_M} {r : List Value} {a0 : Nat} {a1 : Int32} : q_g 69 none Q 18 [some (.ref a0), some (.int a1)] (r) M = q_g 69 none Q 19 [some (.ref a0), some (.int a1)] (.ref a0 :: r) M := r_aload_n rfl d69_18
theorem d69_19 : decode (q_code 69) 19 = .ok (.getfield 25, 3) := by decide +kernel
theorem gA_letter_19 {Q : q_R} {M : q_M} {r : List Value} {a0 : Nat} {a1 : Int32} {s0 : Nat} : q_g 69 none Q 19 [some (.ref a0), some (.int a1)] (.ref s0 :: r) M = (q_isC 3 s0 = true ∧ q_g 69 none Q 22 [some (.ref a0), some (.int a1)] (.ref (q_rf s0 3) :: r) M) := r_getR (by decide +kernel) (by decide +kernel) d69_19
theorem d69_22 : decode (q_code 69) 22 = .ok (.invokevirtual 55, 3) := by decide +kernel
theorem gA_letter_22 {Q : q_R} {M : q_M} {a0 : Nat} {a1 : Int32} {s0 : Nat} : q_g 69 none Q 22 [some (.ref a0), some (.int a1)] ([.ref s0]) M = (q_isC 2 s0 = true ∧ q_Run 32 [.ref s0] M (fun v M' => q_g 69 none Q 25 [some (.ref a0), some (.int a1)] (v.toList ++ []) M')) := r_call_virtual (k := 1) (by decide +kernel) (by decide +kernel) (Nat.le_of_ble_eq_true rfl) (Nat.le_of_ble_eq_true rfl) rfl rfl d69_22
theorem d69_25 : decode (q_code 69) 25 = .ok (.ifCond .eq 10, 3) := by decide +kernel
theorem gA_letter_25 {Q : q_R} {M : q_M} {r : List Value} {a0 : Nat} {a1 : Int32} {s0 : Int32} : q_g 69 none Q 25 [some (.ref a0), some (.int a1)] (.int s0 :: r) M = (if s0 = 0 then q_g 69 none Q 35 [some (.ref a0), some (.int a1)] (r) M else q_g 69 none Q 28 [some (.ref a0), some (.int a1)] (r) M) := r_if_eq (by decide) (by decide) d69_25
theorem d69_28 : decode (q_code 69) 28 = .ok (.aload_n 0, 1) := by decide +kernel
theorem gA_letter_28 {Q : q_R} {M : q_M} {r : List Value} {a0 : Nat} {a1 : Int32} : q_g 69 none Q 28 [some (.ref a0), some (.int a1)] (r) M = q_g 69 none Q 29 [some (.ref a0), some (.int a1)] (.ref a0 :: r) M := r_aload_n rfl d69_28
theorem d69_29 : decode (q_code 69) 29 = .ok (.bipush (-6), 2) := by decide +kernel
theorem gA_letter_29 {Q : q_R} {M : q_M} {r : List Value} {a0 : Nat} {a1 : Int32} : q_g 69 none Q 29 [some (.ref a0), some (.int a1)] (r) M = q_g 69 none Q 31 [some (.ref a0), some (.int a1)] (.int (-6) :: r) M := r_bipush (by decide) d69_29
theorem d69_31 : decode (q_code 69) 31 = .ok (.invokevirtual 51, 3) := by decide +kernel
theorem gA_letter_31 {Q : q_R} {M : q_M} {a0 : Nat} {a1 : Int32} {s0 : Int32} {s1 : Nat} : q_g 69 none Q 31 [some (.ref a0), some (.int a1)] ([.int s0, .ref s1]) M = (q_isC 3 s1 = true ∧ q_Run 79 [.ref s1, .int s0] M (fun v M' => q_g 69 none Q 34 [some (.ref a0), some (.int a1)] (v.toList ++ []) M')) := r_call_virtual (k := 2) (by decide +kernel) (by decide +kernel) (Nat.le_of_ble_eq_true rfl) (Nat.le_of_ble_eq_true rfl) rfl rfl d69_31
theorem d69_34 : decode (q_code 69) 34 = .ok (.ireturn, 1) := by decide +kernel
theorem gA_letter_34 {Q : q_R} {M : q_M} {a0 : Nat} {a1 : Int32} {s0 : Int32} : q_g 69 none Q 34 [some (.ref a0), some (.int a1)] ([.int s0]) M = Q (some (.int s0)) M := r_iret (r := []) (by decide +kernel) d69_34
theorem d69_35 : decode (q_code 69) 35 = .ok (.aload_n 0, 1) := by decide +kernel
theorem gA_letter_35 {Q : q_R} {M : q_M} {r : List Value} {a0 : Nat} {a1 : Int32} : q_g 69 none Q 35 [some (.ref a0), some (.int a1)] (r) M = q_g 69 none Q 36 [some (.ref a0), some (.int a1)] (.ref a0 :: r) M := r_aload_n rfl d69_35
theorem d69_36 : decode (q_code 69) 36 = .ok (.getfield 25, 3) := by decide +kernel
theorem gA_letter_36 {Q : q_R} {M : q_M} {r : List Value} {a0 : Nat} {a1 : Int32} {s0 : Nat} : q_g 69 none Q 36 [some (.ref a0), some (.int a1)] (.ref s0 :: r) M = (q_isC 3 s0 = true ∧ q_g 69 none Q 39 [some (.ref a0), some (.int a1)] (.ref (q_rf s0 3) :: r) M) := r_getR (by decide +kernel) (by decide +kernel) d69_36
theorem d69_39 : decode (q_code 69) 39 = .ok (.iload_n 1, 1) := by decide +kernel
theorem gA_letter_39 {Q : q_R} {M : q_M} {r : List Value} {a0 : Nat} {a1 : Int32} : q_g 69 none Q 39 [some (.ref a0), some (.int a1)] (r) M = q_g 69 none Q 40 [some (.ref a0), some (.int a1)] (.int a1 :: r) M := r_iload_n rfl d69_39
theorem d69_40 : decode (q_code 69) 40 = .ok (.invokevirtual 59, 3) := by decide +kernel
theorem gA_letter_40 {Q : q_R} {M : q_M} {a0 : Nat} {a1 : Int32} {s0 : Int32} {s1 : Nat} : q_g 69 none Q 40 [some (.ref a0), some (.int a1)] ([.int s0, .ref s1]) M = (q_isC 2 s1 = true ∧ q_Run 30 [.ref s1, .int s0] M (fun v M' => q_g 69 none Q 43 [some (.ref a0), some (.int a1)] (v.toList ++ []) M')) := r_call_virtual (k := 2) (by decide +kernel) (by decide +kernel) (Nat.le_of_ble_eq_true rfl) (Nat.le_of_ble_eq_true rfl) rfl rfl d69_40
theorem d69_43 : decode (q_code 69) 43 = .ok (.ireturn, 1) := by decide +kernel
theorem gA_letter_43 {Q : q_R} {M : q_M} {a0 : Nat} {a1 : Int32} {s0 : Int32} : q_g 69 none Q 43 [some (.ref a0), some (.int a1)] ([.int s0]) M = Q (some (.int s0)) M := r_iret (r := []) (by decide +kernel) d69_43
theorem e_A_lots {Q : q_R} {M : q_M} {a0 : Nat} {a1 : Int32} {a2 : Int32} : q_Run 70 [.ref a0, .int a1, .int a2] M Q = q_g 70 none Q 0 [some (.ref a0), some (.int a1), some (.int a2)] [] M := q_entry (Nat.le_of_ble_eq_true rfl) rfl
theorem d70_0 : decode (q_code 70) 0 = .ok (.iload_n 1, 1) := by decide +kernel
theorem gA_lots_0 {Q : q_R} {M : q_M} {r : List Value} {a0 : Nat} {a1 : Int32} {a2 : Int32} : q_g 70 none Q 0 [some (.ref a0), some (.int a1), some (.int a2)] (r) M = q_g 70 none Q 1 [some (.ref a0), some (.int a1), some (.int a2)] (.int a1 :: r) M := r_iload_n rfl d70_0
theorem d70_1 : decode (q_code 70) 1 = .ok (.invokestatic 200, 3) := by decide +kernel
theorem gA_lots_1 {Q : q_R} {M : q_M} {a0 : Nat} {a1 : Int32} {a2 : Int32} {s0 : Int32} : q_g 70 none Q 1 [some (.ref a0), some (.int a1), some (.int a2)] ([.int s0]) M = q_Run 67 [.int s0] M (fun v M' => q_g 70 none Q 4 [some (.ref a0), some (.int a1), some (.int a2)] (v.toList ++ []) M') := r_call_static (k := 1) (by decide +kernel) (by decide +kernel) (by decide +kernel) (Nat.le_of_ble_eq_true rfl) (Nat.le_of_ble_eq_true rfl) rfl rfl d70_1
theorem d70_4 : decode (q_code 70) 4 = .ok (.ifCond .eq 10, 3) := by decide +kernel
theorem gA_lots_4 {Q : q_R} {M : q_M} {r : List Value} {a0 : Nat} {a1 : Int32} {a2 : Int32} {s0 : Int32} : q_g 70 none Q 4 [some (.ref a0), some (.int a1), some (.int a2)] (.int s0 :: r) M = (if s0 = 0 then q_g 70 none Q 14 [some (.ref a0), some (.int a1), some (.int a2)] (r) M else q_g 70 none Q 7 [some (.ref a0), some (.int a1), some (.int a2)] (r) M) := r_if_eq (by decide) (by decide) d70_4
theorem d70_7 : decode (q_code 70) 7 = .ok (.aload_n 0, 1) := by decide +kernel
theorem gA_lots_7 {Q : q_R} {M : q_M} {r : List Value} {a0 : Nat} {a1 : Int32} {a2 : Int32} : q_g 70 none Q 7 [some (.ref a0), some (.int a1), some (.int a2)] (r) M = q_g 70 none Q 8 [some (.ref a0), some (.int a1), some (.int a2)] (.ref a0 :: r) M := r_aload_n rfl d70_7
theorem d70_8 : decode (q_code 70) 8 = .ok (.bipush (-2), 2) := by decide +kernel
theorem gA_lots_8 {Q : q_R} {M : q_M} {r : List Value} {a0 : Nat} {a1 : Int32} {a2 : Int32} : q_g 70 none Q 8 [some (.ref a0), some (.int a1), some (.int a2)] (r) M = q_g 70 none Q 10 [some (.ref a0), some (.int a1), some (.int a2)] (.int (-2) :: r) M := r_bipush (by decide) d70_8
theorem d70_10 : decode (q_code 70) 10 = .ok (.invokevirtual 51, 3) := by decide +kernel
theorem gA_lots_10 {Q : q_R} {M : q_M} {a0 : Nat} {a1 : Int32} {a2 : Int32} {s0 : Int32} {s1 : Nat} : q_g 70 none Q 10 [some (.ref a0), some (.int a1), some (.int a2)] ([.int s0, .ref s1]) M = (q_isC 3 s1 = true ∧ q_Run 79 [.ref s1, .int s0] M (fun v M' => q_g 70 none Q 13 [some (.ref a0), some (.int a1), some (.int a2)] (v.toList ++ []) M')) := r_call_virtual (k := 2) (by decide +kernel) (by decide +kernel) (Nat.le_of_ble_eq_true rfl) (Nat.le_of_ble_eq_true rfl) rfl rfl d70_10
theorem d70_13 : decode (q_code 70) 13 = .ok (.ireturn, 1) := by decide +kernel
theorem gA_lots_13 {Q : q_R} {M : q_M} {a0 : Nat} {a1 : Int32} {a2 : Int32} {s0 : Int32} : q_g 70 none Q 13 [some (.ref a0), some (.int a1), some (.int a2)] ([.int s0]) M = Q (some (.int s0)) M := r_iret (r := []) (by decide +kernel) d70_13
theorem d70_14 : decode (q_code 70) 14 = .ok (.aload_n 0, 1) := by decide +kernel
theorem gA_lots_14 {Q : q_R} {M : q_M} {r : List Value} {a0 : Nat} {a1 : Int32} {a2 : Int32} : q_g 70 none Q 14 [some (.ref a0), some (.int a1), some (.int a2)] (r) M = q_g 70 none Q 15 [some (.ref a0), some (.int a1), some (.int a2)] (.ref a0 :: r) M := r_aload_n rfl d70_14
theorem d70_15 : decode (q_code 70) 15 = .ok (.getfield 10, 3) := by decide +kernel
theorem gA_lots_15 {Q : q_R} {M : q_M} {r : List Value} {a0 : Nat} {a1 : Int32} {a2 : Int32} {s0 : Nat} : q_g 70 none Q 15 [some (.ref a0), some (.int a1), some (.int a2)] (.ref s0 :: r) M = (q_isC 3 s0 = true ∧ q_g 70 none Q 18 [some (.ref a0), some (.int a1), some (.int a2)] (.ref (q_rf s0 0) :: r) M) := r_getR (by decide +kernel) (by decide +kernel) d70_15
theorem d70_18 : decode (q_code 70) 18 = .ok (.iload_n 1, 1) := by decide +kernel
theorem gA_lots_18 {Q : q_R} {M : q_M} {r : List Value} {a0 : Nat} {a1 : Int32} {a2 : Int32} : q_g 70 none Q 18 [some (.ref a0), some (.int a1), some (.int a2)] (r) M = q_g 70 none Q 19 [some (.ref a0), some (.int a1), some (.int a2)] (.int a1 :: r) M := r_iload_n rfl d70_18
theorem d70_19 : decode (q_code 70) 19 = .ok (.iload_n 2, 1) := by decide +kernel
theorem gA_lots_19 {Q : q_R} {M : q_M} {r : List Value} {a0 : Nat} {a1 : Int32} {a2 : Int32} : q_g 70 none Q 19 [some (.ref a0), some (.int a1), some (.int a2)] (r) M = q_g 70 none Q 20 [some (.ref a0), some (.int a1), some (.int a2)] (.int a2 :: r) M := r_iload_n rfl d70_19
theorem d70_20 : decode (q_code 70) 20 = .ok (.invokestatic 221, 3) := by decide +kernel
theorem gA_lots_20 {Q : q_R} {M : q_M} {a0 : Nat} {a1 : Int32} {a2 : Int32} {s0 : Int32} {s1 : Int32} {s2 : Nat} : q_g 70 none Q 20 [some (.ref a0), some (.int a1), some (.int a2)] ([.int s0, .int s1, .ref s2]) M = q_Run 52 [.ref s2, .int s1, .int s0] M (fun v M' => q_g 70 none Q 23 [some (.ref a0), some (.int a1), some (.int a2)] (v.toList ++ []) M') := r_call_static (k := 3) (by decide +kernel) (by decide +kernel) (by decide +kernel) (Nat.le_of_ble_eq_true rfl) (Nat.le_of_ble_eq_true rfl) rfl rfl d70_20
theorem d70_23 : decode (q_code 70) 23 = .ok (.ireturn, 1) := by decide +kernel
theorem gA_lots_23 {Q : q_R} {M : q_M} {a0 : Nat} {a1 : Int32} {a2 : Int32} {s0 : Int32} : q_g 70 none Q 23 [some (.ref a0), some (.int a1), some (.int a2)] ([.int s0]) M = Q (some (.int s0)) M := r_iret (r := []) (by decide +kernel) d70_23
theorem e_A_may {Q : q_R} {M : q_M} {a0 : Nat} : q_Run 71 [.ref a0] M Q = q_g 71 none Q 0 [some (.ref a0)] [] M := q_entry (Nat.le_of_ble_eq_true rfl) rfl
theorem d71_0 : decode (q_code 71) 0 = .ok (.aload_n 0, 1) := by decide +kernel
theorem gA_may_0 {Q : q_R} {M : q_M} {r : List Value} {a0 : Nat} : q_g 71 none Q 0 [some (.ref a0)] (r) M = q_g 71 none Q 1 [some (.ref a0)] (.ref a0 :: r) M := r_aload_n rfl d71_0
theorem d71_1 : decode (q_code 71) 1 = .ok (.getfield 10, 3) := by decide +kernel
theorem gA_may_1 {Q : q_R} {M : q_M} {r : List Value} {a0 : Nat} {s0 : Nat} : q_g 71 none Q 1 [some (.ref a0)] (.ref s0 :: r) M = (q_isC 3 s0 = true ∧ q_g 71 none Q 4 [some (.ref a0)] (.ref (q_rf s0 0) :: r) M) := r_getR (by decide +kernel) (by decide +kernel) d71_1
theorem d71_4 : decode (q_code 71) 4 = .ok (.aload_n 0, 1) := by decide +kernel
theorem gA_may_4 {Q : q_R} {M : q_M} {r : List Value} {a0 : Nat} : q_g 71 none Q 4 [some (.ref a0)] (r) M = q_g 71 none Q 5 [some (.ref a0)] (.ref a0 :: r) M := r_aload_n rfl d71_4
theorem d71_5 : decode (q_code 71) 5 = .ok (.getfield 10, 3) := by decide +kernel
theorem gA_may_5 {Q : q_R} {M : q_M} {r : List Value} {a0 : Nat} {s0 : Nat} : q_g 71 none Q 5 [some (.ref a0)] (.ref s0 :: r) M = (q_isC 3 s0 = true ∧ q_g 71 none Q 8 [some (.ref a0)] (.ref (q_rf s0 0) :: r) M) := r_getR (by decide +kernel) (by decide +kernel) d71_5
theorem d71_8 : decode (q_code 71) 8 = .ok (.getfield 100, 3) := by decide +kernel
theorem gA_may_8 {Q : q_R} {M : q_M} {r : List Value} {a0 : Nat} {s0 : Nat} : q_g 71 none Q 8 [some (.ref a0)] (.ref s0 :: r) M = (q_isC 0 s0 = true ∧ q_g 71 none Q 11 [some (.ref a0)] (.int (M s0 7) :: r) M) := r_getI (by decide +kernel) (by decide +kernel) d71_8
theorem d71_11 : decode (q_code 71) 11 = .ok (.invokevirtual 116, 3) := by decide +kernel
theorem gA_may_11 {Q : q_R} {M : q_M} {a0 : Nat} {s0 : Int32} {s1 : Nat} : q_g 71 none Q 11 [some (.ref a0)] ([.int s0, .ref s1]) M = (q_isC 0 s1 = true ∧ q_Run 12 [.ref s1, .int s0] M (fun v M' => q_g 71 none Q 14 [some (.ref a0)] (v.toList ++ []) M')) := r_call_virtual (k := 2) (by decide +kernel) (by decide +kernel) (Nat.le_of_ble_eq_true rfl) (Nat.le_of_ble_eq_true rfl) rfl rfl d71_11
theorem d71_14 : decode (q_code 71) 14 = .ok (.ireturn, 1) := by decide +kernel
theorem gA_may_14 {Q : q_R} {M : q_M} {a0 : Nat} {s0 : Int32} : q_g 71 none Q 14 [some (.ref a0)] ([.int s0]) M = Q (some (.int s0)) M := r_iret (r := []) (by decide +kernel) d71_14
theorem e_A_mean {Q : q_R} {M : q_M} {a0 : Nat} {a1 : Int32} {a2 : Int32} : q_Run 72 [.ref a0, .int a1, .int a2] M Q = q_g 72 none Q 0 [some (.ref a0), some (.int a1), some (.int a2), none, none] [] M := q_entry (Nat.le_of_ble_eq_true rfl) rfl
theorem d72_0 : decode (q_code 72) 0 = .ok (.aload_n 0, 1) := by decide +kernel
theorem gA_mean_0 {Q : q_R} {M : q_M} {r : List Value} {a0 : Nat} {a1 : Int32} {a2 : Int32} {a3 : Option Value} {a4 : Option Value} : q_g 72 none Q 0 [some (.ref a0), some (.int a1), some (.int a2), a3, a4] (r) M = q_g 72 none Q 1 [some (.ref a0), some (.int a1), some (.int a2), a3, a4] (.ref a0 :: r) M := r_aload_n rfl d72_0
theorem d72_1 : decode (q_code 72) 1 = .ok (.getfield 10, 3) := by decide +kernel
theorem gA_mean_1 {Q : q_R} {M : q_M} {r : List Value} {a0 : Nat} {a1 : Int32} {a2 : Int32} {a3 : Option Value} {a4 : Option Value} {s0 : Nat} : q_g 72 none Q 1 [some (.ref a0), some (.int a1), some (.int a2), a3, a4] (.ref s0 :: r) M = (q_isC 3 s0 = true ∧ q_g 72 none Q 4 [some (.ref a0), some (.int a1), some (.int a2), a3, a4] (.ref (q_rf s0 0) :: r) M) := r_getR (by decide +kernel) (by decide +kernel) d72_1
theorem d72_4 : decode (q_code 72) 4 = .ok (.iload_n 1, 1) := by decide +kernel
theorem gA_mean_4 {Q : q_R} {M : q_M} {r : List Value} {a0 : Nat} {a1 : Int32} {a2 : Int32} {a3 : Option Value} {a4 : Option Value} : q_g 72 none Q 4 [some (.ref a0), some (.int a1), some (.int a2), a3, a4] (r) M = q_g 72 none Q 5 [some (.ref a0), some (.int a1), some (.int a2), a3, a4] (.int a1 :: r) M := r_iload_n rfl d72_4
theorem d72_5 : decode (q_code 72) 5 = .ok (.invokevirtual 119, 3) := by decide +kernel
theorem gA_mean_5 {Q : q_R} {M : q_M} {a0 : Nat} {a1 : Int32} {a2 : Int32} {a3 : Option Value} {a4 : Option Value} {s0 : Int32} {s1 : Nat} : q_g 72 none Q 5 [some (.ref a0), some (.int a1), some (.int a2), a3, a4] ([.int s0, .ref s1]) M = (q_isC 0 s1 = true ∧ q_Run 10 [.ref s1, .int s0] M (fun v M' => q_g 72 none Q 8 [some (.ref a0), some (.int a1), some (.int a2), a3, a4] (v.toList ++ []) M')) := r_call_virtual (k := 2) (by decide +kernel) (by decide +kernel) (Nat.le_of_ble_eq_true rfl) (Nat.le_of_ble_eq_true rfl) rfl rfl d72_5
theorem d72_8 : decode (q_code 72) 8 = .ok (.ifCond .ne 9, 3) := by decide +kernel
theorem gA_mean_8 {Q : q_R} {M : q_M} {r : List Value} {a0 : Nat} {a1 : Int32} {a2 : Int32} {a3 : Option Value} {a4 : Option Value} {s0 : Int32} : q_g 72 none Q 8 [some (.ref a0), some (.int a1), some (.int a2), a3, a4] (.int s0 :: r) M = (if ¬ s0 = 0 then q_g 72 none Q 17 [some (.ref a0), some (.int a1), some (.int a2), a3, a4] (r) M else q_g 72 none Q 11 [some (.ref a0), some (.int a1), some (.int a2), a3, a4] (r) M) := r_if_ne (by decide) (by decide) d72_8
theorem d72_11 : decode (q_code 72) 11 = .ok (.aload_n 0, 1) := by decide +kernel
theorem gA_mean_11 {Q : q_R} {M : q_M} {r : List Value} {a0 : Nat} {a1 : Int32} {a2 : Int32} {a3 : Option Value} {a4 : Option Value} : q_g 72 none Q 11 [some (.ref a0), some (.int a1), some (.int a2), a3, a4] (r) M = q_g 72 none Q 12 [some (.ref a0), some (.int a1), some (.int a2), a3, a4] (.ref a0 :: r) M := r_aload_n rfl d72_11
theorem d72_12 : decode (q_code 72) 12 = .ok (.iconst (-1), 1) := by decide +kernel
theorem gA_mean_12 {Q : q_R} {M : q_M} {r : List Value} {a0 : Nat} {a1 : Int32} {a2 : Int32} {a3 : Option Value} {a4 : Option Value} : q_g 72 none Q 12 [some (.ref a0), some (.int a1), some (.int a2), a3, a4] (r) M = q_g 72 none Q 13 [some (.ref a0), some (.int a1), some (.int a2), a3, a4] (.int (-1) :: r) M := r_iconst (by decide) d72_12
theorem d72_13 : decode (q_code 72) 13 = .ok (.invokevirtual 138, 3) := by decide +kernel
theorem gA_mean_13 {Q : q_R} {M : q_M} {a0 : Nat} {a1 : Int32} {a2 : Int32} {a3 : Option Value} {a4 : Option Value} {s0 : Int32} {s1 : Nat} : q_g 72 none Q 13 [some (.ref a0), some (.int a1), some (.int a2), a3, a4] ([.int s0, .ref s1]) M = (q_isC 3 s1 = true ∧ q_Run 80 [.ref s1, .int s0] M (fun v M' => q_g 72 none Q 16 [some (.ref a0), some (.int a1), some (.int a2), a3, a4] (v.toList ++ []) M')) := r_call_virtual (k := 2) (by decide +kernel) (by decide +kernel) (Nat.le_of_ble_eq_true rfl) (Nat.le_of_ble_eq_true rfl) rfl rfl d72_13
theorem d72_16 : decode (q_code 72) 16 = .ok (.lreturn, 1) := by decide +kernel
theorem gA_mean_16 {Q : q_R} {M : q_M} {a0 : Nat} {a1 : Int32} {a2 : Int32} {a3 : Option Value} {a4 : Option Value} {s0 : Int64} : q_g 72 none Q 16 [some (.ref a0), some (.int a1), some (.int a2), a3, a4] ([.long s0]) M = Q (some (.long s0)) M := r_lret (r := []) (by decide +kernel) d72_16
theorem d72_17 : decode (q_code 72) 17 = .ok (.iload_n 2, 1) := by decide +kernel
theorem gA_mean_17 {Q : q_R} {M : q_M} {r : List Value} {a0 : Nat} {a1 : Int32} {a2 : Int32} {a3 : Option Value} {a4 : Option Value} : q_g 72 none Q 17 [some (.ref a0), some (.int a1), some (.int a2), a3, a4] (r) M = q_g 72 none Q 18 [some (.ref a0), some (.int a1), some (.int a2), a3, a4] (.int a2 :: r) M := r_iload_n rfl d72_17
theorem d72_18 : decode (q_code 72) 18 = .ok (.invokestatic 88, 3) := by decide +kernel
theorem gA_mean_18 {Q : q_R} {M : q_M} {a0 : Nat} {a1 : Int32} {a2 : Int32} {a3 : Option Value} {a4 : Option Value} {s0 : Int32} : q_g 72 none Q 18 [some (.ref a0), some (.int a1), some (.int a2), a3, a4] ([.int s0]) M = q_Run 66 [.int s0] M (fun v M' => q_g 72 none Q 21 [some (.ref a0), some (.int a1), some (.int a2), a3, a4] (v.toList ++ []) M') := r_call_static (k := 1) (by decide +kernel) (by decide +kernel) (by decide +kernel) (Nat.le_of_ble_eq_true rfl) (Nat.le_of_ble_eq_true rfl) rfl rfl d72_18
theorem d72_21 : decode (q_code 72) 21 = .ok (.ifCond .eq 10, 3) := by decide +kernel
theorem gA_mean_21 {Q : q_R} {M : q_M} {r : List Value} {a0 : Nat} {a1 : Int32} {a2 : Int32} {a3 : Option Value} {a4 : Option Value} {s0 : Int32} : q_g 72 none Q 21 [some (.ref a0), some (.int a1), some (.int a2), a3, a4] (.int s0 :: r) M = (if s0 = 0 then q_g 72 none Q 31 [some (.ref a0), some (.int a1), some (.int a2), a3, a4] (r) M else q_g 72 none Q 24 [some (.ref a0), some (.int a1), some (.int a2), a3, a4] (r) M) := r_if_eq (by decide) (by decide) d72_21
theorem d72_24 : decode (q_code 72) 24 = .ok (.aload_n 0, 1) := by decide +kernel
theorem gA_mean_24 {Q : q_R} {M : q_M} {r : List Value} {a0 : Nat} {a1 : Int32} {a2 : Int32} {a3 : Option Value} {a4 : Option Value} : q_g 72 none Q 24 [some (.ref a0), some (.int a1), some (.int a2), a3, a4] (r) M = q_g 72 none Q 25 [some (.ref a0), some (.int a1), some (.int a2), a3, a4] (.ref a0 :: r) M := r_aload_n rfl d72_24
theorem d72_25 : decode (q_code 72) 25 = .ok (.bipush (-2), 2) := by decide +kernel
theorem gA_mean_25 {Q : q_R} {M : q_M} {r : List Value} {a0 : Nat} {a1 : Int32} {a2 : Int32} {a3 : Option Value} {a4 : Option Value} : q_g 72 none Q 25 [some (.ref a0), some (.int a1), some (.int a2), a3, a4] (r) M = q_g 72 none Q 27 [some (.ref a0), some (.int a1), some (.int a2), a3, a4] (.int (-2) :: r) M := r_bipush (by decide) d72_25
theorem d72_27 : decode (q_code 72) 27 = .ok (.invokevirtual 138, 3) := by decide +kernel
theorem gA_mean_27 {Q : q_R} {M : q_M} {a0 : Nat} {a1 : Int32} {a2 : Int32} {a3 : Option Value} {a4 : Option Value} {s0 : Int32} {s1 : Nat} : q_g 72 none Q 27 [some (.ref a0), some (.int a1), some (.int a2), a3, a4] ([.int s0, .ref s1]) M = (q_isC 3 s1 = true ∧ q_Run 80 [.ref s1, .int s0] M (fun v M' => q_g 72 none Q 30 [some (.ref a0), some (.int a1), some (.int a2), a3, a4] (v.toList ++ []) M')) := r_call_virtual (k := 2) (by decide +kernel) (by decide +kernel) (Nat.le_of_ble_eq_true rfl) (Nat.le_of_ble_eq_true rfl) rfl rfl d72_27
theorem d72_30 : decode (q_code 72) 30 = .ok (.lreturn, 1) := by decide +kernel
theorem gA_mean_30 {Q : q_R} {M : q_M} {a0 : Nat} {a1 : Int32} {a2 : Int32} {a3 : Option Value} {a4 : Option Value} {s0 : Int64} : q_g 72 none Q 30 [some (.ref a0), some (.int a1), some (.int a2), a3, a4] ([.long s0]) M = Q (some (.long s0)) M := r_lret (r := []) (by decide +kernel) d72_30
theorem d72_31 : decode (q_code 72) 31 = .ok (.aload_n 0, 1) := by decide +kernel
theorem gA_mean_31 {Q : q_R} {M : q_M} {r : List Value} {a0 : Nat} {a1 : Int32} {a2 : Int32} {a3 : Option Value} {a4 : Option Value} : q_g 72 none Q 31 [some (.ref a0), some (.int a1), some (.int a2), a3, a4] (r) M = q_g 72 none Q 32 [some (.ref a0), some (.int a1), some (.int a2), a3, a4] (.ref a0 :: r) M := r_aload_n rfl d72_31
theorem d72_32 : decode (q_code 72) 32 = .ok (.getfield 32, 3) := by decide +kernel
theorem gA_mean_32 {Q : q_R} {M : q_M} {r : List Value} {a0 : Nat} {a1 : Int32} {a2 : Int32} {a3 : Option Value} {a4 : Option Value} {s0 : Nat} : q_g 72 none Q 32 [some (.ref a0), some (.int a1), some (.int a2), a3, a4] (.ref s0 :: r) M = (q_isC 3 s0 = true ∧ q_g 72 none Q 35 [some (.ref a0), some (.int a1), some (.int a2), a3, a4] (.ref (q_rf s0 4) :: r) M) := r_getR (by decide +kernel) (by decide +kernel) d72_32
theorem d72_35 : decode (q_code 72) 35 = .ok (.aload_n 0, 1) := by decide +kernel
theorem gA_mean_35 {Q : q_R} {M : q_M} {r : List Value} {a0 : Nat} {a1 : Int32} {a2 : Int32} {a3 : Option Value} {a4 : Option Value} : q_g 72 none Q 35 [some (.ref a0), some (.int a1), some (.int a2), a3, a4] (r) M = q_g 72 none Q 36 [some (.ref a0), some (.int a1), some (.int a2), a3, a4] (.ref a0 :: r) M := r_aload_n rfl d72_35
theorem d72_36 : decode (q_code 72) 36 = .ok (.getfield 10, 3) := by decide +kernel
theorem gA_mean_36 {Q : q_R} {M : q_M} {r : List Value} {a0 : Nat} {a1 : Int32} {a2 : Int32} {a3 : Option Value} {a4 : Option Value} {s0 : Nat} : q_g 72 none Q 36 [some (.ref a0), some (.int a1), some (.int a2), a3, a4] (.ref s0 :: r) M = (q_isC 3 s0 = true ∧ q_g 72 none Q 39 [some (.ref a0), some (.int a1), some (.int a2), a3, a4] (.ref (q_rf s0 0) :: r) M) := r_getR (by decide +kernel) (by decide +kernel) d72_36
theorem d72_39 : decode (q_code 72) 39 = .ok (.iload_n 1, 1) := by decide +kernel
theorem gA_mean_39 {Q : q_R} {M : q_M} {r : List Value} {a0 : Nat} {a1 : Int32} {a2 : Int32} {a3 : Option Value} {a4 : Option Value} : q_g 72 none Q 39 [some (.ref a0), some (.int a1), some (.int a2), a3, a4] (r) M = q_g 72 none Q 40 [some (.ref a0), some (.int a1), some (.int a2), a3, a4] (.int a1 :: r) M := r_iload_n rfl d72_39
theorem d72_40 : decode (q_code 72) 40 = .ok (.iconst 1, 1) := by decide +kernel
theorem gA_mean_40 {Q : q_R} {M : q_M} {r : List Value} {a0 : Nat} {a1 : Int32} {a2 : Int32} {a3 : Option Value} {a4 : Option Value} : q_g 72 none Q 40 [some (.ref a0), some (.int a1), some (.int a2), a3, a4] (r) M = q_g 72 none Q 41 [some (.ref a0), some (.int a1), some (.int a2), a3, a4] (.int 1 :: r) M := r_iconst (by decide) d72_40
theorem d72_41 : decode (q_code 72) 41 = .ok (.invokevirtual 125, 3) := by decide +kernel
theorem gA_mean_41 {Q : q_R} {M : q_M} {a0 : Nat} {a1 : Int32} {a2 : Int32} {a3 : Option Value} {a4 : Option Value} {s0 : Int32} {s1 : Int32} {s2 : Nat} {s3 : Nat} : q_g 72 none Q 41 [some (.ref a0), some (.int a1), some (.int a2), a3, a4] ([.int s0, .int s1, .ref s2, .ref s3]) M = (q_isC 1 s3 = true ∧ q_Run 25 [.ref s3, .ref s2, .int s1, .int s0] M (fun v M' => q_g 72 none Q 44 [some (.ref a0), some (.int a1), some (.int a2), a3, a4] (v.toList ++ []) M')) := r_call_virtual (k := 4) (by decide +kernel) (by decide +kernel) (Nat.le_of_ble_eq_true rfl) (Nat.le_of_ble_eq_true rfl) rfl rfl d72_41
theorem d72_44 : decode (q_code 72) 44 = .ok (.aload_n 0, 1) := by decide +kernel
theorem gA_mean_44 {Q : q_R} {M : q_M} {r : List Value} {a0 : Nat} {a1 : Int32} {a2 : Int32} {a3 : Option Value} {a4 : Option Value} : q_g 72 none Q 44 [some (.ref a0), some (.int a1), some (.int a2), a3, a4] (r) M = q_g 72 none Q 45 [some (.ref a0), some (.int a1), some (.int a2), a3, a4] (.ref a0 :: r) M := r_aload_n rfl d72_44
theorem d72_45 : decode (q_code 72) 45 = .ok (.getfield 32, 3) := by decide +kernel
theorem gA_mean_45 {Q : q_R} {M : q_M} {r : List Value} {a0 : Nat} {a1 : Int32} {a2 : Int32} {a3 : Option Value} {a4 : Option Value} {s0 : Nat} : q_g 72 none Q 45 [some (.ref a0), some (.int a1), some (.int a2), a3, a4] (.ref s0 :: r) M = (q_isC 3 s0 = true ∧ q_g 72 none Q 48 [some (.ref a0), some (.int a1), some (.int a2), a3, a4] (.ref (q_rf s0 4) :: r) M) := r_getR (by decide +kernel) (by decide +kernel) d72_45
theorem d72_48 : decode (q_code 72) 48 = .ok (.getfield 129, 3) := by decide +kernel
theorem gA_mean_48 {Q : q_R} {M : q_M} {r : List Value} {a0 : Nat} {a1 : Int32} {a2 : Int32} {a3 : Option Value} {a4 : Option Value} {s0 : Nat} : q_g 72 none Q 48 [some (.ref a0), some (.int a1), some (.int a2), a3, a4] (.ref s0 :: r) M = (q_isC 1 s0 = true ∧ q_g 72 none Q 51 [some (.ref a0), some (.int a1), some (.int a2), a3, a4] (.int (M s0 3) :: r) M) := r_getI (by decide +kernel) (by decide +kernel) d72_48
theorem d72_51 : decode (q_code 72) 51 = .ok (.ifCond .eq 14, 3) := by decide +kernel
theorem gA_mean_51 {Q : q_R} {M : q_M} {r : List Value} {a0 : Nat} {a1 : Int32} {a2 : Int32} {a3 : Option Value} {a4 : Option Value} {s0 : Int32} : q_g 72 none Q 51 [some (.ref a0), some (.int a1), some (.int a2), a3, a4] (.int s0 :: r) M = (if s0 = 0 then q_g 72 none Q 65 [some (.ref a0), some (.int a1), some (.int a2), a3, a4] (r) M else q_g 72 none Q 54 [some (.ref a0), some (.int a1), some (.int a2), a3, a4] (r) M) := r_if_eq (by decide) (by decide) d72_51
theorem d72_54 : decode (q_code 72) 54 = .ok (.aload_n 0, 1) := by decide +kernel
theorem gA_mean_54 {Q : q_R} {M : q_M} {r : List Value} {a0 : Nat} {a1 : Int32} {a2 : Int32} {a3 : Option Value} {a4 : Option Value} : q_g 72 none Q 54 [some (.ref a0), some (.int a1), some (.int a2), a3, a4] (r) M = q_g 72 none Q 55 [some (.ref a0), some (.int a1), some (.int a2), a3, a4] (.ref a0 :: r) M := r_aload_n rfl d72_54
theorem d72_55 : decode (q_code 72) 55 = .ok (.getfield 32, 3) := by decide +kernel
theorem gA_mean_55 {Q : q_R} {M : q_M} {r : List Value} {a0 : Nat} {a1 : Int32} {a2 : Int32} {a3 : Option Value} {a4 : Option Value} {s0 : Nat} : q_g 72 none Q 55 [some (.ref a0), some (.int a1), some (.int a2), a3, a4] (.ref s0 :: r) M = (q_isC 3 s0 = true ∧ q_g 72 none Q 58 [some (.ref a0), some (.int a1), some (.int a2), a3, a4] (.ref (q_rf s0 4) :: r) M) := r_getR (by decide +kernel) (by decide +kernel) d72_55
theorem d72_58 : decode (q_code 72) 58 = .ok (.getfield 132, 3) := by decide +kernel
theorem gA_mean_58 {Q : q_R} {M : q_M} {r : List Value} {a0 : Nat} {a1 : Int32} {a2 : Int32} {a3 : Option Value} {a4 : Option Value} {s0 : Nat} : q_g 72 none Q 58 [some (.ref a0), some (.int a1), some (.int a2), a3, a4] (.ref s0 :: r) M = (q_isC 1 s0 = true ∧ q_g 72 none Q 61 [some (.ref a0), some (.int a1), some (.int a2), a3, a4] (.int (M s0 4) :: r) M) := r_getI (by decide +kernel) (by decide +kernel) d72_58
theorem d72_61 : decode (q_code 72) 61 = .ok (.i2l, 1) := by decide +kernel
theorem gA_mean_61 {Q : q_R} {M : q_M} {r : List Value} {a0 : Nat} {a1 : Int32} {a2 : Int32} {a3 : Option Value} {a4 : Option Value} {s0 : Int32} : q_g 72 none Q 61 [some (.ref a0), some (.int a1), some (.int a2), a3, a4] (.int s0 :: r) M = q_g 72 none Q 62 [some (.ref a0), some (.int a1), some (.int a2), a3, a4] (.long s0.toInt64 :: r) M := r_i2l d72_61
theorem d72_62 : decode (q_code 72) 62 = .ok (.goto 4, 3) := by decide +kernel
theorem gA_mean_62 {Q : q_R} {M : q_M} {r : List Value} {a0 : Nat} {a1 : Int32} {a2 : Int32} {a3 : Option Value} {a4 : Option Value} : q_g 72 none Q 62 [some (.ref a0), some (.int a1), some (.int a2), a3, a4] (r) M = q_g 72 none Q 66 [some (.ref a0), some (.int a1), some (.int a2), a3, a4] (r) M := r_goto (by decide) (by decide) d72_62
theorem d72_65 : decode (q_code 72) 65 = .ok (.lconst 0, 1) := by decide +kernel
theorem gA_mean_65 {Q : q_R} {M : q_M} {r : List Value} {a0 : Nat} {a1 : Int32} {a2 : Int32} {a3 : Option Value} {a4 : Option Value} : q_g 72 none Q 65 [some (.ref a0), some (.int a1), some (.int a2), a3, a4] (r) M = q_g 72 none Q 66 [some (.ref a0), some (.int a1), some (.int a2), a3, a4] (.long 0 :: r) M := r_lconst (by decide) d72_65
theorem d72_66 : decode (q_code 72) 66 = .ok (.lstore_n 3, 1) := by decide +kernel
theorem gA_mean_66 {Q : q_R} {M : q_M} {r : List Value} {a0 : Nat} {a1 : Int32} {a2 : Int32} {a3 : Option Value} {a4 : Option Value} {s0 : Int64} : q_g 72 none Q 66 [some (.ref a0), some (.int a1), some (.int a2), a3, a4] (.long s0 :: r) M = q_g 72 none Q 67 [some (.ref a0), some (.int a1), some (.int a2), some (.long s0), none] (r) M := r_lstore_n (Nat.le_of_ble_eq_true rfl) d72_66
theorem d72_67 : decode (q_code 72) 67 = .ok (.lload_n 3, 1) := by decide +kernel
theorem gA_mean_67 {Q : q_R} {M : q_M} {r : List Value} {a0 : Nat} {a1 : Int32} {a2 : Int32} {a3 : Int64} {a4 : Option Value} : q_g 72 none Q 67 [some (.ref a0), some (.int a1), some (.int a2), some (.long a3), a4] (r) M = q_g 72 none Q 68 [some (.ref a0), some (.int a1), some (.int a2), some (.long a3), a4] (.long a3 :: r) M := r_lload_n rfl d72_67
theorem d72_68 : decode (q_code 72) 68 = .ok (.ldc2_w 142, 3) := by decide +kernel
theorem gA_mean_68 {Q : q_R} {M : q_M} {r : List Value} {a0 : Nat} {a1 : Int32} {a2 : Int32} {a3 : Int64} {a4 : Option Value} : q_g 72 none Q 68 [some (.ref a0), some (.int a1), some (.int a2), some (.long a3), a4] (r) M = q_g 72 none Q 71 [some (.ref a0), some (.int a1), some (.int a2), some (.long a3), a4] (.long 2520 :: r) M := r_ldc2 (by decide +kernel) d72_68
theorem d72_71 : decode (q_code 72) 71 = .ok (.iload_n 2, 1) := by decide +kernel
theorem gA_mean_71 {Q : q_R} {M : q_M} {r : List Value} {a0 : Nat} {a1 : Int32} {a2 : Int32} {a3 : Int64} {a4 : Option Value} : q_g 72 none Q 71 [some (.ref a0), some (.int a1), some (.int a2), some (.long a3), a4] (r) M = q_g 72 none Q 72 [some (.ref a0), some (.int a1), some (.int a2), some (.long a3), a4] (.int a2 :: r) M := r_iload_n rfl d72_71
theorem d72_72 : decode (q_code 72) 72 = .ok (.invokestatic 144, 3) := by decide +kernel
theorem gA_mean_72 {Q : q_R} {M : q_M} {a0 : Nat} {a1 : Int32} {a2 : Int32} {a3 : Int64} {a4 : Option Value} {s0 : Int32} {s1 : Int64} {s2 : Int64} : q_g 72 none Q 72 [some (.ref a0), some (.int a1), some (.int a2), some (.long a3), a4] ([.int s0, .long s1, .long s2]) M = q_Run 57 [.long s2, .long s1, .int s0] M (fun v M' => q_g 72 none Q 75 [some (.ref a0), some (.int a1), some (.int a2), some (.long a3), a4] (v.toList ++ []) M') := r_call_static (k := 3) (by decide +kernel) (by decide +kernel) (by decide +kernel) (Nat.le_of_ble_eq_true rfl) (Nat.le_of_ble_eq_true rfl) rfl rfl d72_72
theorem d72_75 : decode (q_code 72) 75 = .ok (.lreturn, 1) := by decide +kernel
theorem gA_mean_75 {Q : q_R} {M : q_M} {a0 : Nat} {a1 : Int32} {a2 : Int32} {a3 : Int64} {a4 : Option Value} {s0 : Int64} : q_g 72 none Q 75 [some (.ref a0), some (.int a1), some (.int a2), some (.long a3), a4] ([.long s0]) M = Q (some (.long s0)) M := r_lret (r := []) (by decide +kernel) d72_75
theorem e_A_must {Q : q_R} {M : q_M} {a0 : Nat} {a1 : Int32} : q_Run 73 [.ref a0, .int a1] M Q = q_g 73 none Q 0 [some (.ref a0), some (.int a1), none] [] M := q_entry (Nat.le_of_ble_eq_true rfl) rfl
theorem d73_0 : decode (q_code 73) 0 = .ok (.aload_n 0, 1) := by decide +kernel
theorem gA_must_0 {Q : q_R} {M : q_M} {r : List Value} {a0 : Nat} {a1 : Int32} {a2 : Option Value} : q_g 73 none Q 0 [some (.ref a0), some (.int a1), a2] (r) M = q_g 73 none Q 1 [some (.ref a0), some (.int a1), a2] (.ref a0 :: r) M := r_aload_n rfl d73_0
theorem d73_1 : decode (q_code 73) 1 = .ok (.iload_n 1, 1) := by decide +kernel
theorem gA_must_1 {Q : q_R} {M : q_M} {r : List Value} {a0 : Nat} {a1 : Int32} {a2 : Option Value} : q_g 73 none Q 1 [some (.ref a0), some (.int a1), a2] (r) M = q_g 73 none Q 2 [some (.ref a0), some (.int a1), a2] (.int a1 :: r) M := r_iload_n rfl d73_1
theorem d73_2 : decode (q_code 73) 2 = .ok (.invokevirtual 175, 3) := by decide +kernel
theorem gA_must_2 {Q : q_R} {M : q_M} {a0 : Nat} {a1 : Int32} {a2 : Option Value} {s0 : Int32} {s1 : Nat} : q_g 73 none Q 2 [some (.ref a0), some (.int a1), a2] ([.int s0, .ref s1]) M = (q_isC 3 s1 = true ∧ q_Run 78 [.ref s1, .int s0] M (fun v M' => q_g 73 none Q 5 [some (.ref a0), some (.int a1), a2] (v.toList ++ []) M')) := r_call_virtual (k := 2) (by decide +kernel) (by decide +kernel) (Nat.le_of_ble_eq_true rfl) (Nat.le_of_ble_eq_true rfl) rfl rfl d73_2
theorem d73_5 : decode (q_code 73) 5 = .ok (.istore_n 2, 1) := by decide +kernel
theorem gA_must_5 {Q : q_R} {M : q_M} {r : List Value} {a0 : Nat} {a1 : Int32} {a2 : Option Value} {s0 : Int32} : q_g 73 none Q 5 [some (.ref a0), some (.int a1), a2] (.int s0 :: r) M = q_g 73 none Q 6 [some (.ref a0), some (.int a1), some (.int s0)] (r) M := r_istore_n (Nat.le_of_ble_eq_true rfl) d73_5
theorem d73_6 : decode (q_code 73) 6 = .ok (.iload_n 2, 1) := by decide +kernel
theorem gA_must_6 {Q : q_R} {M : q_M} {r : List Value} {a0 : Nat} {a1 : Int32} {a2 : Int32} : q_g 73 none Q 6 [some (.ref a0), some (.int a1), some (.int a2)] (r) M = q_g 73 none Q 7 [some (.ref a0), some (.int a1), some (.int a2)] (.int a2 :: r) M := r_iload_n rfl d73_6
theorem d73_7 : decode (q_code 73) 7 = .ok (.ifCond .eq 9, 3) := by decide +kernel
theorem gA_must_7 {Q : q_R} {M : q_M} {r : List Value} {a0 : Nat} {a1 : Int32} {a2 : Int32} {s0 : Int32} : q_g 73 none Q 7 [some (.ref a0), some (.int a1), some (.int a2)] (.int s0 :: r) M = (if s0 = 0 then q_g 73 none Q 16 [some (.ref a0), some (.int a1), some (.int a2)] (r) M else q_g 73 none Q 10 [some (.ref a0), some (.int a1), some (.int a2)] (r) M) := r_if_eq (by decide) (by decide) d73_7
theorem d73_10 : decode (q_code 73) 10 = .ok (.aload_n 0, 1) := by decide +kernel
theorem gA_must_10 {Q : q_R} {M : q_M} {r : List Value} {a0 : Nat} {a1 : Int32} {a2 : Int32} : q_g 73 none Q 10 [some (.ref a0), some (.int a1), some (.int a2)] (r) M = q_g 73 none Q 11 [some (.ref a0), some (.int a1), some (.int a2)] (.ref a0 :: r) M := r_aload_n rfl d73_10
theorem d73_11 : decode (q_code 73) 11 = .ok (.iload_n 2, 1) := by decide +kernel
theorem gA_must_11 {Q : q_R} {M : q_M} {r : List Value} {a0 : Nat} {a1 : Int32} {a2 : Int32} : q_g 73 none Q 11 [some (.ref a0), some (.int a1), some (.int a2)] (r) M = q_g 73 none Q 12 [some (.ref a0), some (.int a1), some (.int a2)] (.int a2 :: r) M := r_iload_n rfl d73_11
theorem d73_12 : decode (q_code 73) 12 = .ok (.invokevirtual 51, 3) := by decide +kernel
theorem gA_must_12 {Q : q_R} {M : q_M} {a0 : Nat} {a1 : Int32} {a2 : Int32} {s0 : Int32} {s1 : Nat} : q_g 73 none Q 12 [some (.ref a0), some (.int a1), some (.int a2)] ([.int s0, .ref s1]) M = (q_isC 3 s1 = true ∧ q_Run 79 [.ref s1, .int s0] M (fun v M' => q_g 73 none Q 15 [some (.ref a0), some (.int a1), some (.int a2)] (v.toList ++ []) M')) := r_call_virtual (k := 2) (by decide +kernel) (by decide +kernel) (Nat.le_of_ble_eq_true rfl) (Nat.le_of_ble_eq_true rfl) rfl rfl d73_12
theorem d73_15 : decode (q_code 73) 15 = .ok (.ireturn, 1) := by decide +kernel
theorem gA_must_15 {Q : q_R} {M : q_M} {a0 : Nat} {a1 : Int32} {a2 : Int32} {s0 : Int32} : q_g 73 none Q 15 [some (.ref a0), some (.int a1), some (.int a2)] ([.int s0]) M = Q (some (.int s0)) M := r_iret (r := []) (by decide +kernel) d73_15
theorem d73_16 : decode (q_code 73) 16 = .ok (.aload_n 0, 1) := by decide +kernel
theorem gA_must_16 {Q : q_R} {M : q_M} {r : List Value} {a0 : Nat} {a1 : Int32} {a2 : Int32} : q_g 73 none Q 16 [some (.ref a0), some (.int a1), some (.int a2)] (r) M = q_g 73 none Q 17 [some (.ref a0), some (.int a1), some (.int a2)] (.ref a0 :: r) M := r_aload_n rfl d73_16
theorem d73_17 : decode (q_code 73) 17 = .ok (.getfield 10, 3) := by decide +kernel
theorem gA_must_17 {Q : q_R} {M : q_M} {r : List Value} {a0 : Nat} {a1 : Int32} {a2 : Int32} {s0 : Nat} : q_g 73 none Q 17 [some (.ref a0), some (.int a1), some (.int a2)] (.ref s0 :: r) M = (q_isC 3 s0 = true ∧ q_g 73 none Q 20 [some (.ref a0), some (.int a1), some (.int a2)] (.ref (q_rf s0 0) :: r) M) := r_getR (by decide +kernel) (by decide +kernel) d73_17
theorem d73_20 : decode (q_code 73) 20 = .ok (.iload_n 1, 1) := by decide +kernel
theorem gA_must_20 {Q : q_R} {M : q_M} {r : List Value} {a0 : Nat} {a1 : Int32} {a2 : Int32} : q_g 73 none Q 20 [some (.ref a0), some (.int a1), some (.int a2)] (r) M = q_g 73 none Q 21 [some (.ref a0), some (.int a1), some (.int a2)] (.int a1 :: r) M := r_iload_n rfl d73_20
theorem d73_21 : decode (q_code 73) 21 = .ok (.invokestatic 181, 3) := by decide +kernel
theorem gA_must_21 {Q : q_R} {M : q_M} {a0 : Nat} {a1 : Int32} {a2 : Int32} {s0 : Int32} {s1 : Nat} : q_g 73 none Q 21 [some (.ref a0), some (.int a1), some (.int a2)] ([.int s0, .ref s1]) M = q_Run 49 [.ref s1, .int s0] M (fun v M' => q_g 73 none Q 24 [some (.ref a0), some (.int a1), some (.int a2)] (v.toList ++ []) M') := r_call_static (k := 2) (by decide +kernel) (by decide +kernel) (by decide +kernel) (Nat.le_of_ble_eq_true rfl) (Nat.le_of_ble_eq_true rfl) rfl rfl d73_21
theorem d73_24 : decode (q_code 73) 24 = .ok (.ireturn, 1) := by decide +kernel
theorem gA_must_24 {Q : q_R} {M : q_M} {a0 : Nat} {a1 : Int32} {a2 : Int32} {s0 : Int32} : q_g 73 none Q 24 [some (.ref a0), some (.int a1), some (.int a2)] ([.int s0]) M = Q (some (.int s0)) M := r_iret (r := []) (by decide +kernel) d73_24
theorem e_A_nails {Q : q_R} {M : q_M} {a0 : Nat} : q_Run 74 [.ref a0] M Q = q_g 74 none Q 0 [some (.ref a0)] [] M := q_entry (Nat.le_of_ble_eq_true rfl) rfl
theorem d74_0 : decode (q_code 74) 0 = .ok (.aload_n 0, 1) := by decide +kernel
theorem gA_nails_0 {Q : q_R} {M : q_M} {r : List Value} {a0 : Nat} : q_g 74 none Q 0 [some (.ref a0)] (r) M = q_g 74 none Q 1 [some (.ref a0)] (.ref a0 :: r) M := r_aload_n rfl d74_0
theorem d74_1 : decode (q_code 74) 1 = .ok (.getfield 10, 3) := by decide +kernel
theorem gA_nails_1 {Q : q_R} {M : q_M} {r : List Value} {a0 : Nat} {s0 : Nat} : q_g 74 none Q 1 [some (.ref a0)] (.ref s0 :: r) M = (q_isC 3 s0 = true ∧ q_g 74 none Q 4 [some (.ref a0)] (.ref (q_rf s0 0) :: r) M) := r_getR (by decide +kernel) (by decide +kernel) d74_1
theorem d74_4 : decode (q_code 74) 4 = .ok (.invokestatic 165, 3) := by decide +kernel
theorem gA_nails_4 {Q : q_R} {M : q_M} {a0 : Nat} {s0 : Nat} : q_g 74 none Q 4 [some (.ref a0)] ([.ref s0]) M = q_Run 46 [.ref s0] M (fun v M' => q_g 74 none Q 7 [some (.ref a0)] (v.toList ++ []) M') := r_call_static (k := 1) (by decide +kernel) (by decide +kernel) (by decide +kernel) (Nat.le_of_ble_eq_true rfl) (Nat.le_of_ble_eq_true rfl) rfl rfl d74_4
theorem d74_7 : decode (q_code 74) 7 = .ok (.ireturn, 1) := by decide +kernel
theorem gA_nails_7 {Q : q_R} {M : q_M} {a0 : Nat} {s0 : Int32} : q_g 74 none Q 7 [some (.ref a0)] ([.int s0]) M = Q (some (.int s0)) M := r_iret (r := []) (by decide +kernel) d74_7
theorem e_A_need {Q : q_R} {M : q_M} {a0 : Nat} {a1 : Int32} {a2 : Int32} {a3 : Int32} : q_Run 75 [.ref a0, .int a1, .int a2, .int a3] M Q = q_g 75 none Q 0 [some (.ref a0), some (.int a1), some (.int a2), some (.int a3)] [] M := q_entry (Nat.le_of_ble_eq_true rfl) rfl
theorem d75_0 : decode (q_code 75) 0 = .ok (.aload_n 0, 1) := by decide +kernel
theorem gA_need_0 {Q : q_R} {M : q_M} {r : List Value} {a0 : Nat} {a1 : Int32} {a2 : Int32} {a3 : Int32} : q_g 75 none Q 0 [some (.ref a0), some (.int a1), some (.int a2), some (.int a3)] (r) M = q_g 75 none Q 1 [some (.ref a0), some (.int a1), some (.int a2), some (.int a3)] (.ref a0 :: r) M := r_aload_n rfl d75_0
theorem d75_1 : decode (q_code 75) 1 = .ok (.getfield 10, 3) := by decide +kernel
theorem gA_need_1 {Q : q_R} {M : q_M} {r : List Value} {a0 : Nat} {a1 : Int32} {a2 : Int32} {a3 : Int32} {s0 : Nat} : q_g 75 none Q 1 [some (.ref a0), some (.int a1), some (.int a2), some (.int a3)] (.ref s0 :: r) M = (q_isC 3 s0 = true ∧ q_g 75 none Q 4 [some (.ref a0), some (.int a1), some (.int a2), some (.int a3)] (.ref (q_rf s0 0) :: r) M) := r_getR (by decide +kernel) (by decide +kernel) d75_1
theorem d75_4 : decode (q_code 75) 4 = .ok (.iload_n 1, 1) := by decide +kernel
theorem gA_need_4 {Q : q_R} {M : q_M} {r : List Value} {a0 : Nat} {a1 : Int32} {a2 : Int32} {a3 : Int32} : q_g 75 none Q 4 [some (.ref a0), some (.int a1), some (.int a2), some (.int a3)] (r) M = q_g 75 none Q 5 [some (.ref a0), some (.int a1), some (.int a2), some (.int a3)] (.int a1 :: r) M := r_iload_n rfl d75_4
theorem d75_5 : decode (q_code 75) 5 = .ok (.invokevirtual 80, 3) := by decide +kernel
theorem gA_need_5 {Q : q_R} {M : q_M} {a0 : Nat} {a1 : Int32} {a2 : Int32} {a3 : Int32} {s0 : Int32} {s1 : Nat} : q_g 75 none Q 5 [some (.ref a0), some (.int a1), some (.int a2), some (.int a3)] ([.int s0, .ref s1]) M = (q_isC 0 s1 = true ∧ q_Run 11 [.ref s1, .int s0] M (fun v M' => q_g 75 none Q 8 [some (.ref a0), some (.int a1), some (.int a2), some (.int a3)] (v.toList ++ []) M')) := r_call_virtual (k := 2) (by decide +kernel) (by decide +kernel) (Nat.le_of_ble_eq_true rfl) (Nat.le_of_ble_eq_true rfl) rfl rfl d75_5
theorem d75_8 : decode (q_code 75) 8 = .ok (.ifCond .eq 19, 3) := by decide +kernel
theorem gA_need_8 {Q : q_R} {M : q_M} {r : List Value} {a0 : Nat} {a1 : Int32} {a2 : Int32} {a3 : Int32} {s0 : Int32} : q_g 75 none Q 8 [some (.ref a0), some (.int a1), some (.int a2), some (.int a3)] (.int s0 :: r) M = (if s0 = 0 then q_g 75 none Q 27 [some (.ref a0), some (.int a1), some (.int a2), some (.int a3)] (r) M else q_g 75 none Q 11 [some (.ref a0), some (.int a1), some (.int a2), some (.int a3)] (r) M) := r_if_eq (by decide) (by decide) d75_8
theorem d75_11 : decode (q_code 75) 11 = .ok (.aload_n 0, 1) := by decide +kernel
theorem gA_need_11 {Q : q_R} {M : q_M} {r : List Value} {a0 : Nat} {a1 : Int32} {a2 : Int32} {a3 : Int32} : q_g 75 none Q 11 [some (.ref a0), some (.int a1), some (.int a2), some (.int a3)] (r) M = q_g 75 none Q 12 [some (.ref a0), some (.int a1), some (.int a2), some (.int a3)] (.ref a0 :: r) M := r_aload_n rfl d75_11
theorem d75_12 : decode (q_code 75) 12 = .ok (.getfield 10, 3) := by decide +kernel
theorem gA_need_12 {Q : q_R} {M : q_M} {r : List Value} {a0 : Nat} {a1 : Int32} {a2 : Int32} {a3 : Int32} {s0 : Nat} : q_g 75 none Q 12 [some (.ref a0), some (.int a1), some (.int a2), some (.int a3)] (.ref s0 :: r) M = (q_isC 3 s0 = true ∧ q_g 75 none Q 15 [some (.ref a0), some (.int a1), some (.int a2), some (.int a3)] (.ref (q_rf s0 0) :: r) M) := r_getR (by decide +kernel) (by decide +kernel) d75_12
theorem d75_15 : decode (q_code 75) 15 = .ok (.iload_n 2, 1) := by decide +kernel
theorem gA_need_15 {Q : q_R} {M : q_M} {r : List Value} {a0 : Nat} {a1 : Int32} {a2 : Int32} {a3 : Int32} : q_g 75 none Q 15 [some (.ref a0), some (.int a1), some (.int a2), some (.int a3)] (r) M = q_g 75 none Q 16 [some (.ref a0), some (.int a1), some (.int a2), some (.int a3)] (.int a2 :: r) M := r_iload_n rfl d75_15
theorem d75_16 : decode (q_code 75) 16 = .ok (.invokevirtual 80, 3) := by decide +kernel
theorem gA_need_16 {Q : q_R} {M : q_M} {a0 : Nat} {a1 : Int32} {a2 : Int32} {a3 : Int32} {s0 : Int32} {s1 : Nat} : q_g 75 none Q 16 [some (.ref a0), some (.int a1), some (.int a2), some (.int a3)] ([.int s0, .ref s1]) M = (q_isC 0 s1 = true ∧ q_Run 11 [.ref s1, .int s0] M (fun v M' => q_g 75 none Q 19 [some (.ref a0), some (.int a1), some (.int a2), some (.int a3)] (v.toList ++ []) M')) := r_call_virtual (k := 2) (by decide +kernel) (by decide +kernel) (Nat.le_of_ble_eq_true rfl) (Nat.le_of_ble_eq_true rfl) rfl rfl d75_16
theorem d75_19 : decode (q_code 75) 19 = .ok (.ifCond .eq 8, 3) := by decide +kernel
theorem gA_need_19 {Q : q_R} {M : q_M} {r : List Value} {a0 : Nat} {a1 : Int32} {a2 : Int32} {a3 : Int32} {s0 : Int32} : q_g 75 none Q 19 [some (.ref a0), some (.int a1), some (.int a2), some (.int a3)] (.int s0 :: r) M = (if s0 = 0 then q_g 75 none Q 27 [some (.ref a0), some (.int a1), some (.int a2), some (.int a3)] (r) M else q_g 75 none Q 22 [some (.ref a0), some (.int a1), some (.int a2), some (.int a3)] (r) M) := r_if_eq (by decide) (by decide) d75_19
theorem d75_22 : decode (q_code 75) 22 = .ok (.iload_n 1, 1) := by decide +kernel
theorem gA_need_22 {Q : q_R} {M : q_M} {r : List Value} {a0 : Nat} {a1 : Int32} {a2 : Int32} {a3 : Int32} : q_g 75 none Q 22 [some (.ref a0), some (.int a1), some (.int a2), some (.int a3)] (r) M = q_g 75 none Q 23 [some (.ref a0), some (.int a1), some (.int a2), some (.int a3)] (.int a1 :: r) M := r_iload_n rfl d75_22
theorem d75_23 : decode (q_code 75) 23 = .ok (.iload_n 2, 1) := by decide +kernel
theorem gA_need_23 {Q : q_R} {M : q_M} {r : List Value} {a0 : Nat} {a1 : Int32} {a2 : Int32} {a3 : Int32} : q_g 75 none Q 23 [some (.ref a0), some (.int a1), some (.int a2), some (.int a3)] (r) M = q_g 75 none Q 24 [some (.ref a0), some (.int a1), some (.int a2), some (.int a3)] (.int a2 :: r) M := r_iload_n rfl d75_23
theorem d75_24 : decode (q_code 75) 24 = .ok (.if_icmp .ne 9, 3) := by decide +kernel
theorem gA_need_24 {Q : q_R} {M : q_M} {r : List Value} {a0 : Nat} {a1 : Int32} {a2 : Int32} {a3 : Int32} {s0 : Int32} {s1 : Int32} : q_g 75 none Q 24 [some (.ref a0), some (.int a1), some (.int a2), some (.int a3)] (.int s0 :: .int s1 :: r) M = (if ¬ s1 = s0 then q_g 75 none Q 33 [some (.ref a0), some (.int a1), some (.int a2), some (.int a3)] (r) M else q_g 75 none Q 27 [some (.ref a0), some (.int a1), some (.int a2), some (.int a3)] (r) M) := r_icmp_ne (by decide) (by decide) d75_24
theorem d75_27 : decode (q_code 75) 27 = .ok (.aload_n 0, 1) := by decide +kernel
theorem gA_need_27 {Q : q_R} {M : q_M} {r : List Value} {a0 : Nat} {a1 : Int32} {a2 : Int32} {a3 : Int32} : q_g 75 none Q 27 [some (.ref a0), some (.int a1), some (.int a2), some (.int a3)] (r) M = q_g 75 none Q 28 [some (.ref a0), some (.int a1), some (.int a2), some (.int a3)] (.ref a0 :: r) M := r_aload_n rfl d75_27
theorem d75_28 : decode (q_code 75) 28 = .ok (.iconst (-1), 1) := by decide +kernel
theorem gA_need_28 {Q : q_R} {M : q_M} {r : List Value} {a0 : Nat} {a1 : Int32} {a2 : Int32} {a3 : Int32} : q_g 75 none Q 28 [some (.ref a0), some (.int a1), some (.int a2), some (.int a3)] (r) M = q_g 75 none Q 29 [some (.ref a0), some (.int a1), some (.int a2), some (.int a3)] (.int (-1) :: r) M := r_iconst (by decide) d75_28
theorem d75_29 : decode (q_code 75) 29 = .ok (.invokevirtual 51, 3) := by decide +kernel
theorem gA_need_29 {Q : q_R} {M : q_M} {a0 : Nat} {a1 : Int32} {a2 : Int32} {a3 : Int32} {s0 : Int32} {s1 : Nat} : q_g 75 none Q 29 [some (.ref a0), some (.int a1), some (.int a2), some (.int a3)] ([.int s0, .ref s1]) M = (q_isC 3 s1 = true ∧ q_Run 79 [.ref s1, .int s0] M (fun v M' => q_g 75 none Q 32 [some (.ref a0), some (.int a1), some (.int a2), some (.int a3)] (v.toList ++ []) M')) := r_call_virtual (k := 2) (by decide +kernel) (by decide +kernel) (Nat.le_of_ble_eq_true rfl) (Nat.le_of_ble_eq_true rfl) rfl rfl d75_29
theorem d75_32 : decode (q_code 75) 32 = .ok (.ireturn, 1) := by decide +kernel
theorem gA_need_32 {Q : q_R} {M : q_M} {a0 : Nat} {a1 : Int32} {a2 : Int32} {a3 : Int32} {s0 : Int32} : q_g 75 none Q 32 [some (.ref a0), some (.int a1), some (.int a2), some (.int a3)] ([.int s0]) M = Q (some (.int s0)) M := r_iret (r := []) (by decide +kernel) d75_32
theorem d75_33 : decode (q_code 75) 33 = .ok (.iload_n 3, 1) := by decide +kernel
theorem gA_need_33 {Q : q_R} {M : q_M} {r : List Value} {a0 : Nat} {a1 : Int32} {a2 : Int32} {a3 : Int32} : q_g 75 none Q 33 [some (.ref a0), some (.int a1), some (.int a2), some (.int a3)] (r) M = q_g 75 none Q 34 [some (.ref a0), some (.int a1), some (.int a2), some (.int a3)] (.int a3 :: r) M := r_iload_n rfl d75_33
theorem d75_34 : decode (q_code 75) 34 = .ok (.invokestatic 88, 3) := by decide +kernel
theorem gA_need_34 {Q : q_R} {M : q_M} {a0 : Nat} {a1 : Int32} {a2 : Int32} {a3 : Int32} {s0 : Int32} : q_g 75 none Q 34 [some (.ref a0), some (.int a1), some (.int a2), some (.int a3)] ([.int s0]) M = q_Run 66 [.int s0] M (fun v M' => q_g 75 none Q 37 [some (.ref a0), some (.int a1), some (.int a2), some (.int a3)] (v.toList ++ []) M') := r_call_static (k := 1) (by decide +kernel) (by decide +kernel) (by decide +kernel) (Nat.le_of_ble_eq_true rfl) (Nat.le_of_ble_eq_true rfl) rfl rfl d75_34
theorem d75_37 : decode (q_code 75) 37 = .ok (.ifCond .eq 10, 3) := by decide +kernel
theorem gA_need_37 {Q : q_R} {M : q_M} {r : List Value} {a0 : Nat} {a1 : Int32} {a2 : Int32} {a3 : Int32} {s0 : Int32} : q_g 75 none Q 37 [some (.ref a0), some (.int a1), some (.int a2), some (.int a3)] (.int s0 :: r) M = (if s0 = 0 then q_g 75 none Q 47 [some (.ref a0), some (.int a1), some (.int a2), some (.int a3)] (r) M else q_g 75 none Q 40 [some (.ref a0), some (.int a1), some (.int a2), some (.int a3)] (r) M) := r_if_eq (by decide) (by decide) d75_37
theorem d75_40 : decode (q_code 75) 40 = .ok (.aload_n 0, 1) := by decide +kernel
theorem gA_need_40 {Q : q_R} {M : q_M} {r : List Value} {a0 : Nat} {a1 : Int32} {a2 : Int32} {a3 : Int32} : q_g 75 none Q 40 [some (.ref a0), some (.int a1), some (.int a2), some (.int a3)] (r) M = q_g 75 none Q 41 [some (.ref a0), some (.int a1), some (.int a2), some (.int a3)] (.ref a0 :: r) M := r_aload_n rfl d75_40
theorem d75_41 : decode (q_code 75) 41 = .ok (.bipush (-2), 2) := by decide +kernel
theorem gA_need_41 {Q : q_R} {M : q_M} {r : List Value} {a0 : Nat} {a1 : Int32} {a2 : Int32} {a3 : Int32} : q_g 75 none Q 41 [some (.ref a0), some (.int a1), some (.int a2), some (.int a3)] (r) M = q_g 75 none Q 43 [some (.ref a0), some (.int a1), some (.int a2), some (.int a3)] (.int (-2) :: r) M := r_bipush (by decide) d75_41
theorem d75_43 : decode (q_code 75) 43 = .ok (.invokevirtual 51, 3) := by decide +kernel
theorem gA_need_43 {Q : q_R} {M : q_M} {a0 : Nat} {a1 : Int32} {a2 : Int32} {a3 : Int32} {s0 : Int32} {s1 : Nat} : q_g 75 none Q 43 [some (.ref a0), some (.int a1), some (.int a2), some (.int a3)] ([.int s0, .ref s1]) M = (q_isC 3 s1 = true ∧ q_Run 79 [.ref s1, .int s0] M (fun v M' => q_g 75 none Q 46 [some (.ref a0), some (.int a1), some (.int a2), some (.int a3)] (v.toList ++ []) M')) := r_call_virtual (k := 2) (by decide +kernel) (by decide +kernel) (Nat.le_of_ble_eq_true rfl) (Nat.le_of_ble_eq_true rfl) rfl rfl d75_43
theorem d75_46 : decode (q_code 75) 46 = .ok (.ireturn, 1) := by decide +kernel
theorem gA_need_46 {Q : q_R} {M : q_M} {a0 : Nat} {a1 : Int32} {a2 : Int32} {a3 : Int32} {s0 : Int32} : q_g 75 none Q 46 [some (.ref a0), some (.int a1), some (.int a2), some (.int a3)] ([.int s0]) M = Q (some (.int s0)) M := r_iret (r := []) (by decide +kernel) d75_46
theorem d75_47 : decode (q_code 75) 47 = .ok (.iload_n 3, 1) := by decide +kernel
theorem gA_need_47 {Q : q_R} {M : q_M} {r : List Value} {a0 : Nat} {a1 : Int32} {a2 : Int32} {a3 : Int32} : q_g 75 none Q 47 [some (.ref a0), some (.int a1), some (.int a2), some (.int a3)] (r) M = q_g 75 none Q 48 [some (.ref a0), some (.int a1), some (.int a2), some (.int a3)] (.int a3 :: r) M := r_iload_n rfl d75_47
theorem d75_48 : decode (q_code 75) 48 = .ok (.ifCond .ne 15, 3) := by decide +kernel
theorem gA_need_48 {Q : q_R} {M : q_M} {r : List Value} {a0 : Nat} {a1 : Int32} {a2 : Int32} {a3 : Int32} {s0 : Int32} : q_g 75 none Q 48 [some (.ref a0), some (.int a1), some (.int a2), some (.int a3)] (.int s0 :: r) M = (if ¬ s0 = 0 then q_g 75 none Q 63 [some (.ref a0), some (.int a1), some (.int a2), some (.int a3)] (r) M else q_g 75 none Q 51 [some (.ref a0), some (.int a1), some (.int a2), some (.int a3)] (r) M) := r_if_ne (by decide) (by decide) d75_48
theorem d75_51 : decode (q_code 75) 51 = .ok (.aload_n 0, 1) := by decide +kernel
theorem gA_need_51 {Q : q_R} {M : q_M} {r : List Value} {a0 : Nat} {a1 : Int32} {a2 : Int32} {a3 : Int32} : q_g 75 none Q 51 [some (.ref a0), some (.int a1), some (.int a2), some (.int a3)] (r) M = q_g 75 none Q 52 [some (.ref a0), some (.int a1), some (.int a2), some (.int a3)] (.ref a0 :: r) M := r_aload_n rfl d75_51
theorem d75_52 : decode (q_code 75) 52 = .ok (.getfield 10, 3) := by decide +kernel
theorem gA_need_52 {Q : q_R} {M : q_M} {r : List Value} {a0 : Nat} {a1 : Int32} {a2 : Int32} {a3 : Int32} {s0 : Nat} : q_g 75 none Q 52 [some (.ref a0), some (.int a1), some (.int a2), some (.int a3)] (.ref s0 :: r) M = (q_isC 3 s0 = true ∧ q_g 75 none Q 55 [some (.ref a0), some (.int a1), some (.int a2), some (.int a3)] (.ref (q_rf s0 0) :: r) M) := r_getR (by decide +kernel) (by decide +kernel) d75_52
theorem d75_55 : decode (q_code 75) 55 = .ok (.iload_n 1, 1) := by decide +kernel
theorem gA_need_55 {Q : q_R} {M : q_M} {r : List Value} {a0 : Nat} {a1 : Int32} {a2 : Int32} {a3 : Int32} : q_g 75 none Q 55 [some (.ref a0), some (.int a1), some (.int a2), some (.int a3)] (r) M = q_g 75 none Q 56 [some (.ref a0), some (.int a1), some (.int a2), some (.int a3)] (.int a1 :: r) M := r_iload_n rfl d75_55
theorem d75_56 : decode (q_code 75) 56 = .ok (.iload_n 2, 1) := by decide +kernel
theorem gA_need_56 {Q : q_R} {M : q_M} {r : List Value} {a0 : Nat} {a1 : Int32} {a2 : Int32} {a3 : Int32} : q_g 75 none Q 56 [some (.ref a0), some (.int a1), some (.int a2), some (.int a3)] (r) M = q_g 75 none Q 57 [some (.ref a0), some (.int a1), some (.int a2), some (.int a3)] (.int a2 :: r) M := r_iload_n rfl d75_56
theorem d75_57 : decode (q_code 75) 57 = .ok (.invokevirtual 91, 3) := by decide +kernel
theorem gA_need_57 {Q : q_R} {M : q_M} {a0 : Nat} {a1 : Int32} {a2 : Int32} {a3 : Int32} {s0 : Int32} {s1 : Int32} {s2 : Nat} : q_g 75 none Q 57 [some (.ref a0), some (.int a1), some (.int a2), some (.int a3)] ([.int s0, .int s1, .ref s2]) M = (q_isC 0 s2 = true ∧ q_Run 20 [.ref s2, .int s1, .int s0] M (fun v M' => q_g 75 none Q 60 [some (.ref a0), some (.int a1), some (.int a2), some (.int a3)] (v.toList ++ []) M')) := r_call_virtual (k := 3) (by decide +kernel) (by decide +kernel) (Nat.le_of_ble_eq_true rfl) (Nat.le_of_ble_eq_true rfl) rfl rfl d75_57
theorem d75_60 : decode (q_code 75) 60 = .ok (.goto 12, 3) := by decide +kernel
theorem gA_need_60 {Q : q_R} {M : q_M} {r : List Value} {a0 : Nat} {a1 : Int32} {a2 : Int32} {a3 : Int32} : q_g 75 none Q 60 [some (.ref a0), some (.int a1), some (.int a2), some (.int a3)] (r) M = q_g 75 none Q 72 [some (.ref a0), some (.int a1), some (.int a2), some (.int a3)] (r) M := r_goto (by decide) (by decide) d75_60
theorem d75_63 : decode (q_code 75) 63 = .ok (.aload_n 0, 1) := by decide +kernel
theorem gA_need_63 {Q : q_R} {M : q_M} {r : List Value} {a0 : Nat} {a1 : Int32} {a2 : Int32} {a3 : Int32} : q_g 75 none Q 63 [some (.ref a0), some (.int a1), some (.int a2), some (.int a3)] (r) M = q_g 75 none Q 64 [some (.ref a0), some (.int a1), some (.int a2), some (.int a3)] (.ref a0 :: r) M := r_aload_n rfl d75_63
theorem d75_64 : decode (q_code 75) 64 = .ok (.getfield 10, 3) := by decide +kernel
theorem gA_need_64 {Q : q_R} {M : q_M} {r : List Value} {a0 : Nat} {a1 : Int32} {a2 : Int32} {a3 : Int32} {s0 : Nat} : q_g 75 none Q 64 [some (.ref a0), some (.int a1), some (.int a2), some (.int a3)] (.ref s0 :: r) M = (q_isC 3 s0 = true ∧ q_g 75 none Q 67 [some (.ref a0), some (.int a1), some (.int a2), some (.int a3)] (.ref (q_rf s0 0) :: r) M) := r_getR (by decide +kernel) (by decide +kernel) d75_64
theorem d75_67 : decode (q_code 75) 67 = .ok (.iload_n 1, 1) := by decide +kernel
theorem gA_need_67 {Q : q_R} {M : q_M} {r : List Value} {a0 : Nat} {a1 : Int32} {a2 : Int32} {a3 : Int32} : q_g 75 none Q 67 [some (.ref a0), some (.int a1), some (.int a2), some (.int a3)] (r) M = q_g 75 none Q 68 [some (.ref a0), some (.int a1), some (.int a2), some (.int a3)] (.int a1 :: r) M := r_iload_n rfl d75_67
theorem d75_68 : decode (q_code 75) 68 = .ok (.iload_n 2, 1) := by decide +kernel
theorem gA_need_68 {Q : q_R} {M : q_M} {r : List Value} {a0 : Nat} {a1 : Int32} {a2 : Int32} {a3 : Int32} : q_g 75 none Q 68 [some (.ref a0), some (.int a1), some (.int a2), some (.int a3)] (r) M = q_g 75 none Q 69 [some (.ref a0), some (.int a1), some (.int a2), some (.int a3)] (.int a2 :: r) M := r_iload_n rfl d75_68
theorem d75_69 : decode (q_code 75) 69 = .ok (.invokevirtual 94, 3) := by decide +kernel
theorem gA_need_69 {Q : q_R} {M : q_M} {a0 : Nat} {a1 : Int32} {a2 : Int32} {a3 : Int32} {s0 : Int32} {s1 : Int32} {s2 : Nat} : q_g 75 none Q 69 [some (.ref a0), some (.int a1), some (.int a2), some (.int a3)] ([.int s0, .int s1, .ref s2]) M = (q_isC 0 s2 = true ∧ q_Run 19 [.ref s2, .int s1, .int s0] M (fun v M' => q_g 75 none Q 72 [some (.ref a0), some (.int a1), some (.int a2), some (.int a3)] (v.toList ++ []) M')) := r_call_virtual (k := 3) (by decide +kernel) (by decide +kernel) (Nat.le_of_ble_eq_true rfl) (Nat.le_of_ble_eq_true rfl) rfl rfl d75_69
theorem d75_72 : decode (q_code 75) 72 = .ok (.ireturn, 1) := by decide +kernel
theorem gA_need_72 {Q : q_R} {M : q_M} {a0 : Nat} {a1 : Int32} {a2 : Int32} {a3 : Int32} {s0 : Int32} : q_g 75 none Q 72 [some (.ref a0), some (.int a1), some (.int a2), some (.int a3)] ([.int s0]) M = Q (some (.int s0)) M := r_iret (r := []) (by decide +kernel) d75_72
theorem e_A_on {Q : q_R} {M : q_M} {a0 : Nat} : q_Run 76 [.ref a0] M Q = q_g 76 none Q 0 [some (.ref a0)] [] M := q_entry (Nat.le_of_ble_eq_true rfl) rfl
theorem d76_0 : decode (q_code 76) 0 = .ok (.aload_n 0, 1) := by decide +kernel
theorem gA_on_0 {Q : q_R} {M : q_M} {r : List Value} {a0 : Nat} : q_g 76 none Q 0 [some (.ref a0)] (r) M = q_g 76 none Q 1 [some (.ref a0)] (.ref a0 :: r) M := r_aload_n rfl d76_0
theorem d76_1 : decode (q_code 76) 1 = .ok (.getfield 47, 3) := by decide +kernel
theorem gA_on_1 {Q : q_R} {M : q_M} {r : List Value} {a0 : Nat} {s0 : Nat} : q_g 76 none Q 1 [some (.ref a0)] (.ref s0 :: r) M = (q_isC 3 s0 = true ∧ q_g 76 none Q 4 [some (.ref a0)] (.int (M s0 8) :: r) M) := r_getI (by decide +kernel) (by decide +kernel) d76_1
theorem d76_4 : decode (q_code 76) 4 = .ok (.ifCond .ne 10, 3) := by decide +kernel
theorem gA_on_4 {Q : q_R} {M : q_M} {r : List Value} {a0 : Nat} {s0 : Int32} : q_g 76 none Q 4 [some (.ref a0)] (.int s0 :: r) M = (if ¬ s0 = 0 then q_g 76 none Q 14 [some (.ref a0)] (r) M else q_g 76 none Q 7 [some (.ref a0)] (r) M) := r_if_ne (by decide) (by decide) d76_4
theorem d76_7 : decode (q_code 76) 7 = .ok (.aload_n 0, 1) := by decide +kernel
theorem gA_on_7 {Q : q_R} {M : q_M} {r : List Value} {a0 : Nat} : q_g 76 none Q 7 [some (.ref a0)] (r) M = q_g 76 none Q 8 [some (.ref a0)] (.ref a0 :: r) M := r_aload_n rfl d76_7
theorem d76_8 : decode (q_code 76) 8 = .ok (.bipush (-3), 2) := by decide +kernel
theorem gA_on_8 {Q : q_R} {M : q_M} {r : List Value} {a0 : Nat} : q_g 76 none Q 8 [some (.ref a0)] (r) M = q_g 76 none Q 10 [some (.ref a0)] (.int (-3) :: r) M := r_bipush (by decide) d76_8
theorem d76_10 : decode (q_code 76) 10 = .ok (.invokevirtual 51, 3) := by decide +kernel
theorem gA_on_10 {Q : q_R} {M : q_M} {a0 : Nat} {s0 : Int32} {s1 : Nat} : q_g 76 none Q 10 [some (.ref a0)] ([.int s0, .ref s1]) M = (q_isC 3 s1 = true ∧ q_Run 79 [.ref s1, .int s0] M (fun v M' => q_g 76 none Q 13 [some (.ref a0)] (v.toList ++ []) M')) := r_call_virtual (k := 2) (by decide +kernel) (by decide +kernel) (Nat.le_of_ble_eq_true rfl) (Nat.le_of_ble_eq_true rfl) rfl rfl d76_10
theorem d76_13 : decode (q_code 76) 13 = .ok (.ireturn, 1) := by decide +kernel
theorem gA_on_13 {Q : q_R} {M : q_M} {a0 : Nat} {s0 : Int32} : q_g 76 none Q 13 [some (.ref a0)] ([.int s0]) M = Q (some (.int s0)) M := r_iret (r := []) (by decide +kernel) d76_13
theorem d76_14 : decode (q_code 76) 14 = .ok (.aload_n 0, 1) := by decide +kernel
theorem gA_on_14 {Q : q_R} {M : q_M} {r : List Value} {a0 : Nat} : q_g 76 none Q 14 [some (.ref a0)] (r) M = q_g 76 none Q 15 [some (.ref a0)] (.ref a0 :: r) M := r_aload_n rfl d76_14
theorem d76_15 : decode (q_code 76) 15 = .ok (.getfield 10, 3) := by decide +kernel
theorem gA_on_15 {Q : q_R} {M : q_M} {r : List Value} {a0 : Nat} {s0 : Nat} : q_g 76 none Q 15 [some (.ref a0)] (.ref s0 :: r) M = (q_isC 3 s0 = true ∧ q_g 76 none Q 18 [some (.ref a0)] (.ref (q_rf s0 0) :: r) M) := r_getR (by decide +kernel) (by decide +kernel) d76_15
theorem d76_18 : decode (q_code 76) 18 = .ok (.aload_n 0, 1) := by decide +kernel
theorem gA_on_18 {Q : q_R} {M : q_M} {r : List Value} {a0 : Nat} : q_g 76 none Q 18 [some (.ref a0)] (r) M = q_g 76 none Q 19 [some (.ref a0)] (.ref a0 :: r) M := r_aload_n rfl d76_18
theorem d76_19 : decode (q_code 76) 19 = .ok (.getfield 16, 3) := by decide +kernel
theorem gA_on_19 {Q : q_R} {M : q_M} {r : List Value} {a0 : Nat} {s0 : Nat} : q_g 76 none Q 19 [some (.ref a0)] (.ref s0 :: r) M = (q_isC 3 s0 = true ∧ q_g 76 none Q 22 [some (.ref a0)] (.ref (q_rf s0 1) :: r) M) := r_getR (by decide +kernel) (by decide +kernel) d76_19
theorem d76_22 : decode (q_code 76) 22 = .ok (.invokevirtual 62, 3) := by decide +kernel
theorem gA_on_22 {Q : q_R} {M : q_M} {a0 : Nat} {s0 : Nat} {s1 : Nat} : q_g 76 none Q 22 [some (.ref a0)] ([.ref s0, .ref s1]) M = (q_isC 0 s1 = true ∧ q_Run 7 [.ref s1, .ref s0] M (fun v M' => q_g 76 none Q 25 [some (.ref a0)] (v.toList ++ []) M')) := r_call_virtual (k := 2) (by decide +kernel) (by decide +kernel) (Nat.le_of_ble_eq_true rfl) (Nat.le_of_ble_eq_true rfl) rfl rfl d76_22
theorem d76_25 : decode (q_code 76) 25 = .ok (.aload_n 0, 1) := by decide +kernel
theorem gA_on_25 {Q : q_R} {M : q_M} {r : List Value} {a0 : Nat} : q_g 76 none Q 25 [some (.ref a0)] (r) M = q_g 76 none Q 26 [some (.ref a0)] (.ref a0 :: r) M := r_aload_n rfl d76_25
theorem d76_26 : decode (q_code 76) 26 = .ok (.getfield 10, 3) := by decide +kernel
theorem gA_on_26 {Q : q_R} {M : q_M} {r : List Value} {a0 : Nat} {s0 : Nat} : q_g 76 none Q 26 [some (.ref a0)] (.ref s0 :: r) M = (q_isC 3 s0 = true ∧ q_g 76 none Q 29 [some (.ref a0)] (.ref (q_rf s0 0) :: r) M) := r_getR (by decide +kernel) (by decide +kernel) d76_26
theorem d76_29 : decode (q_code 76) 29 = .ok (.getfield 107, 3) := by decide +kernel
theorem gA_on_29 {Q : q_R} {M : q_M} {r : List Value} {a0 : Nat} {s0 : Nat} : q_g 76 none Q 29 [some (.ref a0)] (.ref s0 :: r) M = (q_isC 0 s0 = true ∧ q_g 76 none Q 32 [some (.ref a0)] (.int (M s0 8) :: r) M) := r_getI (by decide +kernel) (by decide +kernel) d76_29
theorem d76_32 : decode (q_code 76) 32 = .ok (.ireturn, 1) := by decide +kernel
theorem gA_on_32 {Q : q_R} {M : q_M} {a0 : Nat} {s0 : Int32} : q_g 76 none Q 32 [some (.ref a0)] ([.int s0]) M = Q (some (.int s0)) M := r_iret (r := []) (by decide +kernel) d76_32
theorem e_A_reach {Q : q_R} {M : q_M} {a0 : Nat} : q_Run 77 [.ref a0] M Q = q_g 77 none Q 0 [some (.ref a0)] [] M := q_entry (Nat.le_of_ble_eq_true rfl) rfl
theorem d77_0 : decode (q_code 77) 0 = .ok (.aload_n 0, 1) := by decide +kernel
theorem gA_reach_0 {Q : q_R} {M : q_M} {r : List Value} {a0 : Nat} : q_g 77 none Q 0 [some (.ref a0)] (r) M = q_g 77 none Q 1 [some (.ref a0)] (.ref a0 :: r) M := r_aload_n rfl d77_0
theorem d77_1 : decode (q_code 77) 1 = .ok (.getfield 10, 3) := by decide +kernel
theorem gA_reach_1 {Q : q_R} {M : q_M} {r : List Value} {a0 : Nat} {s0 : Nat} : q_g 77 none Q 1 [some (.ref a0)] (.ref s0 :: r) M = (q_isC 3 s0 = true ∧ q_g 77 none Q 4 [some (.ref a0)] (.ref (q_rf s0 0) :: r) M) := r_getR (by decide +kernel) (by decide +kernel) d77_1
theorem d77_4 : decode (q_code 77) 4 = .ok (.aload_n 0, 1) := by decide +kernel
theorem gA_reach_4 {Q : q_R} {M : q_M} {r : List Value} {a0 : Nat} : q_g 77 none Q 4 [some (.ref a0)] (r) M = q_g 77 none Q 5 [some (.ref a0)] (.ref a0 :: r) M := r_aload_n rfl d77_4
theorem d77_5 : decode (q_code 77) 5 = .ok (.getfield 10, 3) := by decide +kernel
theorem gA_reach_5 {Q : q_R} {M : q_M} {r : List Value} {a0 : Nat} {s0 : Nat} : q_g 77 none Q 5 [some (.ref a0)] (.ref s0 :: r) M = (q_isC 3 s0 = true ∧ q_g 77 none Q 8 [some (.ref a0)] (.ref (q_rf s0 0) :: r) M) := r_getR (by decide +kernel) (by decide +kernel) d77_5
theorem d77_8 : decode (q_code 77) 8 = .ok (.getfield 100, 3) := by decide +kernel
theorem gA_reach_8 {Q : q_R} {M : q_M} {r : List Value} {a0 : Nat} {s0 : Nat} : q_g 77 none Q 8 [some (.ref a0)] (.ref s0 :: r) M = (q_isC 0 s0 = true ∧ q_g 77 none Q 11 [some (.ref a0)] (.int (M s0 7) :: r) M) := r_getI (by decide +kernel) (by decide +kernel) d77_8
theorem d77_11 : decode (q_code 77) 11 = .ok (.invokevirtual 122, 3) := by decide +kernel
theorem gA_reach_11 {Q : q_R} {M : q_M} {a0 : Nat} {s0 : Int32} {s1 : Nat} : q_g 77 none Q 11 [some (.ref a0)] ([.int s0, .ref s1]) M = (q_isC 0 s1 = true ∧ q_Run 14 [.ref s1, .int s0] M (fun v M' => q_g 77 none Q 14 [some (.ref a0)] (v.toList ++ []) M')) := r_call_virtual (k := 2) (by decide +kernel) (by decide +kernel) (Nat.le_of_ble_eq_true rfl) (Nat.le_of_ble_eq_true rfl) rfl rfl d77_11
theorem d77_14 : decode (q_code 77) 14 = .ok (.ireturn, 1) := by decide +kernel
theorem gA_reach_14 {Q : q_R} {M : q_M} {a0 : Nat} {s0 : Int32} : q_g 77 none Q 14 [some (.ref a0)] ([.int s0]) M = Q (some (.int s0)) M := r_iret (r := []) (by decide +kernel) d77_14
theorem e_A_refusalOfWay {Q : q_R} {M : q_M} {a0 : Nat} {a1 : Int32} : q_Run 78 [.ref a0, .int a1] M Q = q_g 78 none Q 0 [some (.ref a0), some (.int a1)] [] M := q_entry (Nat.le_of_ble_eq_true rfl) rfl
theorem d78_0 : decode (q_code 78) 0 = .ok (.aload_n 0, 1) := by decide +kernel
theorem gA_refusalOfWay_0 {Q : q_R} {M : q_M} {r : List Value} {a0 : Nat} {a1 : Int32} : q_g 78 none Q 0 [some (.ref a0), some (.int a1)] (r) M = q_g 78 none Q 1 [some (.ref a0), some (.int a1)] (.ref a0 :: r) M := r_aload_n rfl d78_0
theorem d78_1 : decode (q_code 78) 1 = .ok (.getfield 10, 3) := by decide +kernel
theorem gA_refusalOfWay_1 {Q : q_R} {M : q_M} {r : List Value} {a0 : Nat} {a1 : Int32} {s0 : Nat} : q_g 78 none Q 1 [some (.ref a0), some (.int a1)] (.ref s0 :: r) M = (q_isC 3 s0 = true ∧ q_g 78 none Q 4 [some (.ref a0), some (.int a1)] (.ref (q_rf s0 0) :: r) M) := r_getR (by decide +kernel) (by decide +kernel) d78_1
theorem d78_4 : decode (q_code 78) 4 = .ok (.iload_n 1, 1) := by decide +kernel
theorem gA_refusalOfWay_4 {Q : q_R} {M : q_M} {r : List Value} {a0 : Nat} {a1 : Int32} : q_g 78 none Q 4 [some (.ref a0), some (.int a1)] (r) M = q_g 78 none Q 5 [some (.ref a0), some (.int a1)] (.int a1 :: r) M := r_iload_n rfl d78_4
theorem d78_5 : decode (q_code 78) 5 = .ok (.invokevirtual 119, 3) := by decide +kernel
theorem gA_refusalOfWay_5 {Q : q_R} {M : q_M} {a0 : Nat} {a1 : Int32} {s0 : Int32} {s1 : Nat} : q_g 78 none Q 5 [some (.ref a0), some (.int a1)] ([.int s0, .ref s1]) M = (q_isC 0 s1 = true ∧ q_Run 10 [.ref s1, .int s0] M (fun v M' => q_g 78 none Q 8 [some (.ref a0), some (.int a1)] (v.toList ++ []) M')) := r_call_virtual (k := 2) (by decide +kernel) (by decide +kernel) (Nat.le_of_ble_eq_true rfl) (Nat.le_of_ble_eq_true rfl) rfl rfl d78_5
theorem d78_8 : decode (q_code 78) 8 = .ok (.ifCond .ne 5, 3) := by decide +kernel
theorem gA_refusalOfWay_8 {Q : q_R} {M : q_M} {r : List Value} {a0 : Nat} {a1 : Int32} {s0 : Int32} : q_g 78 none Q 8 [some (.ref a0), some (.int a1)] (.int s0 :: r) M = (if ¬ s0 = 0 then q_g 78 none Q 13 [some (.ref a0), some (.int a1)] (r) M else q_g 78 none Q 11 [some (.ref a0), some (.int a1)] (r) M) := r_if_ne (by decide) (by decide) d78_8
theorem d78_11 : decode (q_code 78) 11 = .ok (.iconst (-1), 1) := by decide +kernel
theorem gA_refusalOfWay_11 {Q : q_R} {M : q_M} {r : List Value} {a0 : Nat} {a1 : Int32} : q_g 78 none Q 11 [some (.ref a0), some (.int a1)] (r) M = q_g 78 none Q 12 [some (.ref a0), some (.int a1)] (.int (-1) :: r) M := r_iconst (by decide) d78_11
theorem d78_12 : decode (q_code 78) 12 = .ok (.ireturn, 1) := by decide +kernel
theorem gA_refusalOfWay_12 {Q : q_R} {M : q_M} {a0 : Nat} {a1 : Int32} {s0 : Int32} : q_g 78 none Q 12 [some (.ref a0), some (.int a1)] ([.int s0]) M = Q (some (.int s0)) M := r_iret (r := []) (by decide +kernel) d78_12
theorem d78_13 : decode (q_code 78) 13 = .ok (.aload_n 0, 1) := by decide +kernel
theorem gA_refusalOfWay_13 {Q : q_R} {M : q_M} {r : List Value} {a0 : Nat} {a1 : Int32} : q_g 78 none Q 13 [some (.ref a0), some (.int a1)] (r) M = q_g 78 none Q 14 [some (.ref a0), some (.int a1)] (.ref a0 :: r) M := r_aload_n rfl d78_13
theorem d78_14 : decode (q_code 78) 14 = .ok (.getfield 10, 3) := by decide +kernel
theorem gA_refusalOfWay_14 {Q : q_R} {M : q_M} {r : List Value} {a0 : Nat} {a1 : Int32} {s0 : Nat} : q_g 78 none Q 14 [some (.ref a0), some (.int a1)] (.ref s0 :: r) M = (q_isC 3 s0 = true ∧ q_g 78 none Q 17 [some (.ref a0), some (.int a1)] (.ref (q_rf s0 0) :: r) M) := r_getR (by decide +kernel) (by decide +kernel) d78_14
theorem d78_17 : decode (q_code 78) 17 = .ok (.getfield 100, 3) := by decide +kernel
theorem gA_refusalOfWay_17 {Q : q_R} {M : q_M} {r : List Value} {a0 : Nat} {a1 : Int32} {s0 : Nat} : q_g 78 none Q 17 [some (.ref a0), some (.int a1)] (.ref s0 :: r) M = (q_isC 0 s0 = true ∧ q_g 78 none Q 20 [some (.ref a0), some (.int a1)] (.int (M s0 7) :: r) M) := r_getI (by decide +kernel) (by decide +kernel) d78_17
theorem d78_20 : decode (q_code 78) 20 = .ok (.iload_n 1, 1) := by decide +kernel
theorem gA_refusalOfWay_20 {Q : q_R} {M : q_M} {r : List Value} {a0 : Nat} {a1 : Int32} : q_g 78 none Q 20 [some (.ref a0), some (.int a1)] (r) M = q_g 78 none Q 21 [some (.ref a0), some (.int a1)] (.int a1 :: r) M := r_iload_n rfl d78_20
theorem d78_21 : decode (q_code 78) 21 = .ok (.iconst (-1), 1) := by decide +kernel
theorem gA_refusalOfWay_21 {Q : q_R} {M : q_M} {r : List Value} {a0 : Nat} {a1 : Int32} : q_g 78 none Q 21 [some (.ref a0), some (.int a1)] (r) M = q_g 78 none Q 22 [some (.ref a0), some (.int a1)] (.int (-1) :: r) M := r_iconst (by decide) d78_21
theorem d78_22 : decode (q_code 78) 22 = .ok (.ixor, 1) := by decide +kernel
theorem gA_refusalOfWay_22 {Q : q_R} {M : q_M} {r : List Value} {a0 : Nat} {a1 : Int32} {s0 : Int32} {s1 : Int32} : q_g 78 none Q 22 [some (.ref a0), some (.int a1)] (.int s0 :: .int s1 :: r) M = q_g 78 none Q 23 [some (.ref a0), some (.int a1)] (.int (s1 ^^^ s0) :: r) M := r_ixor d78_22
theorem d78_23 : decode (q_code 78) 23 = .ok (.iand, 1) := by decide +kernel
theorem gA_refusalOfWay_23 {Q : q_R} {M : q_M} {r : List Value} {a0 : Nat} {a1 : Int32} {s0 : Int32} {s1 : Int32} : q_g 78 none Q 23 [some (.ref a0), some (.int a1)] (.int s0 :: .int s1 :: r) M = q_g 78 none Q 24 [some (.ref a0), some (.int a1)] (.int (s1 &&& s0) :: r) M := r_iand d78_23
theorem d78_24 : decode (q_code 78) 24 = .ok (.ifCond .eq 8, 3) := by decide +kernel
theorem gA_refusalOfWay_24 {Q : q_R} {M : q_M} {r : List Value} {a0 : Nat} {a1 : Int32} {s0 : Int32} : q_g 78 none Q 24 [some (.ref a0), some (.int a1)] (.int s0 :: r) M = (if s0 = 0 then q_g 78 none Q 32 [some (.ref a0), some (.int a1)] (r) M else q_g 78 none Q 27 [some (.ref a0), some (.int a1)] (r) M) := r_if_eq (by decide) (by decide) d78_24
theorem d78_27 : decode (q_code 78) 27 = .ok (.bipush (-3), 2) := by decide +kernel
theorem gA_refusalOfWay_27 {Q : q_R} {M : q_M} {r : List Value} {a0 : Nat} {a1 : Int32} : q_g 78 none Q 27 [some (.ref a0), some (.int a1)] (r) M = q_g 78 none Q 29 [some (.ref a0), some (.int a1)] (.int (-3) :: r) M := r_bipush (by decide) d78_27
theorem d78_29 : decode (q_code 78) 29 = .ok (.goto 4, 3) := by decide +kernel
theorem gA_refusalOfWay_29 {Q : q_R} {M : q_M} {r : List Value} {a0 : Nat} {a1 : Int32} : q_g 78 none Q 29 [some (.ref a0), some (.int a1)] (r) M = q_g 78 none Q 33 [some (.ref a0), some (.int a1)] (r) M := r_goto (by decide) (by decide) d78_29
theorem d78_32 : decode (q_code 78) 32 = .ok (.iconst 0, 1) := by decide +kernel
theorem gA_refusalOfWay_32 {Q : q_R} {M : q_M} {r : List Value} {a0 : Nat} {a1 : Int32} : q_g 78 none Q 32 [some (.ref a0), some (.int a1)] (r) M = q_g 78 none Q 33 [some (.ref a0), some (.int a1)] (.int 0 :: r) M := r_iconst (by decide) d78_32
theorem d78_33 : decode (q_code 78) 33 = .ok (.ireturn, 1) := by decide +kernel
theorem gA_refusalOfWay_33 {Q : q_R} {M : q_M} {a0 : Nat} {a1 : Int32} {s0 : Int32} : q_g 78 none Q 33 [some (.ref a0), some (.int a1)] ([.int s0]) M = Q (some (.int s0)) M := r_iret (r := []) (by decide +kernel) d78_33
theorem e_A_refuse {Q : q_R} {M : q_M} {a0 : Nat} {a1 : Int32} : q_Run 79 [.ref a0, .int a1] M Q = q_g 79 none Q 0 [some (.ref a0), some (.int a1)] [] M := q_entry (Nat.le_of_ble_eq_true rfl) rfl
theorem d79_0 : decode (q_code 79) 0 = .ok (.aload_n 0, 1) := by decide +kernel
theorem gA_refuse_0 {Q : q_R} {M : q_M} {r : List Value} {a0 : Nat} {a1 : Int32} : q_g 79 none Q 0 [some (.ref a0), some (.int a1)] (r) M = q_g 79 none Q 1 [some (.ref a0), some (.int a1)] (.ref a0 :: r) M := r_aload_n rfl d79_0
theorem d79_1 : decode (q_code 79) 1 = .ok (.getfield 40, 3) := by decide +kernel
theorem gA_refuse_1 {Q : q_R} {M : q_M} {r : List Value} {a0 : Nat} {a1 : Int32} {s0 : Nat} : q_g 79 none Q 1 [some (.ref a0), some (.int a1)] (.ref s0 :: r) M = (q_isC 3 s0 = true ∧ q_g 79 none Q 4 [some (.ref a0), some (.int a1)] (.ref (q_rf s0 6) :: r) M) := r_getR (by decide +kernel) (by decide +kernel) d79_1
theorem d79_4 : decode (q_code 79) 4 = .ok (.iload_n 1, 1) := by decide +kernel
theorem gA_refuse_4 {Q : q_R} {M : q_M} {r : List Value} {a0 : Nat} {a1 : Int32} : q_g 79 none Q 4 [some (.ref a0), some (.int a1)] (r) M = q_g 79 none Q 5 [some (.ref a0), some (.int a1)] (.int a1 :: r) M := r_iload_n rfl d79_4
theorem d79_5 : decode (q_code 79) 5 = .ok (.ineg, 1) := by decide +kernel
theorem gA_refuse_5 {Q : q_R} {M : q_M} {r : List Value} {a0 : Nat} {a1 : Int32} {s0 : Int32} : q_g 79 none Q 5 [some (.ref a0), some (.int a1)] (.int s0 :: r) M = q_g 79 none Q 6 [some (.ref a0), some (.int a1)] (.int (-s0) :: r) M := r_ineg d79_5
theorem d79_6 : decode (q_code 79) 6 = .ok (.aload_n 0, 1) := by decide +kernel
theorem gA_refuse_6 {Q : q_R} {M : q_M} {r : List Value} {a0 : Nat} {a1 : Int32} : q_g 79 none Q 6 [some (.ref a0), some (.int a1)] (r) M = q_g 79 none Q 7 [some (.ref a0), some (.int a1)] (.ref a0 :: r) M := r_aload_n rfl d79_6
theorem d79_7 : decode (q_code 79) 7 = .ok (.getfield 40, 3) := by decide +kernel
theorem gA_refuse_7 {Q : q_R} {M : q_M} {r : List Value} {a0 : Nat} {a1 : Int32} {s0 : Nat} : q_g 79 none Q 7 [some (.ref a0), some (.int a1)] (.ref s0 :: r) M = (q_isC 3 s0 = true ∧ q_g 79 none Q 10 [some (.ref a0), some (.int a1)] (.ref (q_rf s0 6) :: r) M) := r_getR (by decide +kernel) (by decide +kernel) d79_7
theorem d79_10 : decode (q_code 79) 10 = .ok (.iload_n 1, 1) := by decide +kernel
theorem gA_refuse_10 {Q : q_R} {M : q_M} {r : List Value} {a0 : Nat} {a1 : Int32} : q_g 79 none Q 10 [some (.ref a0), some (.int a1)] (r) M = q_g 79 none Q 11 [some (.ref a0), some (.int a1)] (.int a1 :: r) M := r_iload_n rfl d79_10
theorem d79_11 : decode (q_code 79) 11 = .ok (.ineg, 1) := by decide +kernel
theorem gA_refuse_11 {Q : q_R} {M : q_M} {r : List Value} {a0 : Nat} {a1 : Int32} {s0 : Int32} : q_g 79 none Q 11 [some (.ref a0), some (.int a1)] (.int s0 :: r) M = q_g 79 none Q 12 [some (.ref a0), some (.int a1)] (.int (-s0) :: r) M := r_ineg d79_11
theorem d79_12 : decode (q_code 79) 12 = .ok (.invokestatic 236, 3) := by decide +kernel
theorem gA_refuse_12 {Q : q_R} {M : q_M} {a0 : Nat} {a1 : Int32} {s0 : Int32} {s1 : Nat} {s2 : Int32} {s3 : Nat} : q_g 79 none Q 12 [some (.ref a0), some (.int a1)] ([.int s0, .ref s1, .int s2, .ref s3]) M = q_Run 1 [.ref s1, .int s0] M (fun v M' => q_g 79 none Q 15 [some (.ref a0), some (.int a1)] (v.toList ++ [.int s2, .ref s3]) M') := r_call_static (k := 2) (by decide +kernel) (by decide +kernel) (by decide +kernel) (Nat.le_of_ble_eq_true rfl) (Nat.le_of_ble_eq_true rfl) rfl rfl d79_12
theorem d79_15 : decode (q_code 79) 15 = .ok (.iconst 1, 1) := by decide +kernel
theorem gA_refuse_15 {Q : q_R} {M : q_M} {r : List Value} {a0 : Nat} {a1 : Int32} : q_g 79 none Q 15 [some (.ref a0), some (.int a1)] (r) M = q_g 79 none Q 16 [some (.ref a0), some (.int a1)] (.int 1 :: r) M := r_iconst (by decide) d79_15
theorem d79_16 : decode (q_code 79) 16 = .ok (.iadd, 1) := by decide +kernel
theorem gA_refuse_16 {Q : q_R} {M : q_M} {r : List Value} {a0 : Nat} {a1 : Int32} {s0 : Int32} {s1 : Int32} : q_g 79 none Q 16 [some (.ref a0), some (.int a1)] (.int s0 :: .int s1 :: r) M = q_g 79 none Q 17 [some (.ref a0), some (.int a1)] (.int (s1 + s0) :: r) M := r_iadd d79_16
theorem d79_17 : decode (q_code 79) 17 = .ok (.invokestatic 211, 3) := by decide +kernel
theorem gA_refuse_17 {Q : q_R} {M : q_M} {a0 : Nat} {a1 : Int32} {s0 : Int32} {s1 : Int32} {s2 : Nat} : q_g 79 none Q 17 [some (.ref a0), some (.int a1)] ([.int s0, .int s1, .ref s2]) M = q_Run 2 [.ref s2, .int s1, .int s0] M (fun v M' => q_g 79 none Q 20 [some (.ref a0), some (.int a1)] (v.toList ++ []) M') := r_call_static (k := 3) (by decide +kernel) (by decide +kernel) (by decide +kernel) (Nat.le_of_ble_eq_true rfl) (Nat.le_of_ble_eq_true rfl) rfl rfl d79_17
theorem d79_20 : decode (q_code 79) 20 = .ok (.iload_n 1, 1) := by decide +kernel
theorem gA_refuse_20 {Q : q_R} {M : q_M} {r : List Value} {a0 : Nat} {a1 : Int32} : q_g 79 none Q 20 [some (.ref a0), some (.int a1)] (r) M = q_g 79 none Q 21 [some (.ref a0), some (.int a1)] (.int a1 :: r) M := r_iload_n rfl d79_20
theorem d79_21 : decode (q_code 79) 21 = .ok (.ireturn, 1) := by decide +kernel
theorem gA_refuse_21 {Q : q_R} {M : q_M} {a0 : Nat} {a1 : Int32} {s0 : Int32} : q_g 79 none Q 21 [some (.ref a0), some (.int a1)] ([.int s0]) M = Q (some (.int s0)) M := r_iret (r := []) (by decide +kernel) d79_21
theorem e_A_refuseLong {Q : q_R} {M : q_M} {a0 : Nat} {a1 : Int32} : q_Run 80 [.ref a0, .int a1] M Q = q_g 80 none Q 0 [some (.ref a0), some (.int a1)] [] M := q_entry (Nat.le_of_ble_eq_true rfl) rfl
theorem d80_0 : decode (q_code 80) 0 = .ok (.ldc2_w 240, 3) := by decide +kernel
theorem gA_refuseLong_0 {Q : q_R} {M : q_M} {r : List Value} {a0 : Nat} {a1 : Int32} : q_g 80 none Q 0 [some (.ref a0), some (.int a1)] (r) M = q_g 80 none Q 3 [some (.ref a0), some (.int a1)] (.long 4000000000000000000 :: r) M := r_ldc2 (by decide +kernel) d80_0
theorem d80_3 : decode (q_code 80) 3 = .ok (.aload_n 0, 1) := by decide +kernel
theorem gA_refuseLong_3 {Q : q_R} {M : q_M} {r : List Value} {a0 : Nat} {a1 : Int32} : q_g 80 none Q 3 [some (.ref a0), some (.int a1)] (r) M = q_g 80 none Q 4 [some (.ref a0), some (.int a1)] (.ref a0 :: r) M := r_aload_n rfl d80_3
theorem d80_4 : decode (q_code 80) 4 = .ok (.iload_n 1, 1) := by decide +kernel
theorem gA_refuseLong_4 {Q : q_R} {M : q_M} {r : List Value} {a0 : Nat} {a1 : Int32} : q_g 80 none Q 4 [some (.ref a0), some (.int a1)] (r) M = q_g 80 none Q 5 [some (.ref a0), some (.int a1)] (.int a1 :: r) M := r_iload_n rfl d80_4
theorem d80_5 : decode (q_code 80) 5 = .ok (.invokevirtual 51, 3) := by decide +kernel
theorem gA_refuseLong_5 {Q : q_R} {M : q_M} {a0 : Nat} {a1 : Int32} {s0 : Int32} {s1 : Nat} {s2 : Int64} : q_g 80 none Q 5 [some (.ref a0), some (.int a1)] ([.int s0, .ref s1, .long s2]) M = (q_isC 3 s1 = true ∧ q_Run 79 [.ref s1, .int s0] M (fun v M' => q_g 80 none Q 8 [some (.ref a0), some (.int a1)] (v.toList ++ [.long s2]) M')) := r_call_virtual (k := 2) (by decide +kernel) (by decide +kernel) (Nat.le_of_ble_eq_true rfl) (Nat.le_of_ble_eq_true rfl) rfl rfl d80_5
theorem d80_8 : decode (q_code 80) 8 = .ok (.i2l, 1) := by decide +kernel
theorem gA_refuseLong_8 {Q : q_R} {M : q_M} {r : List Value} {a0 : Nat} {a1 : Int32} {s0 : Int32} : q_g 80 none Q 8 [some (.ref a0), some (.int a1)] (.int s0 :: r) M = q_g 80 none Q 9 [some (.ref a0), some (.int a1)] (.long s0.toInt64 :: r) M := r_i2l d80_8
theorem d80_9 : decode (q_code 80) 9 = .ok (.lsub, 1) := by decide +kernel
theorem gA_refuseLong_9 {Q : q_R} {M : q_M} {r : List Value} {a0 : Nat} {a1 : Int32} {s0 : Int64} {s1 : Int64} : q_g 80 none Q 9 [some (.ref a0), some (.int a1)] (.long s0 :: .long s1 :: r) M = q_g 80 none Q 10 [some (.ref a0), some (.int a1)] (.long (s1 - s0) :: r) M := r_lsub d80_9
theorem d80_10 : decode (q_code 80) 10 = .ok (.lreturn, 1) := by decide +kernel
theorem gA_refuseLong_10 {Q : q_R} {M : q_M} {a0 : Nat} {a1 : Int32} {s0 : Int64} : q_g 80 none Q 10 [some (.ref a0), some (.int a1)] ([.long s0]) M = Q (some (.long s0)) M := r_lret (r := []) (by decide +kernel) d80_10
theorem e_A_ringed {Q : q_R} {M : q_M} {a0 : Nat} : q_Run 81 [.ref a0] M Q = q_g 81 none Q 0 [some (.ref a0)] [] M := q_entry (Nat.le_of_ble_eq_true rfl) rfl
theorem d81_0 : decode (q_code 81) 0 = .ok (.aload_n 0, 1) := by decide +kernel
theorem gA_ringed_0 {Q : q_R} {M : q_M} {r : List Value} {a0 : Nat} : q_g 81 none Q 0 [some (.ref a0)] (r) M = q_g 81 none Q 1 [some (.ref a0)] (.ref a0 :: r) M := r_aload_n rfl d81_0
theorem d81_1 : decode (q_code 81) 1 = .ok (.getfield 10, 3) := by decide +kernel
theorem gA_ringed_1 {Q : q_R} {M : q_M} {r : List Value} {a0 : Nat} {s0 : Nat} : q_g 81 none Q 1 [some (.ref a0)] (.ref s0 :: r) M = (q_isC 3 s0 = true ∧ q_g 81 none Q 4 [some (.ref a0)] (.ref (q_rf s0 0) :: r) M) := r_getR (by decide +kernel) (by decide +kernel) d81_1
theorem d81_4 : decode (q_code 81) 4 = .ok (.invokestatic 154, 3) := by decide +kernel
theorem gA_ringed_4 {Q : q_R} {M : q_M} {a0 : Nat} {s0 : Nat} : q_g 81 none Q 4 [some (.ref a0)] ([.ref s0]) M = q_Run 50 [.ref s0] M (fun v M' => q_g 81 none Q 7 [some (.ref a0)] (v.toList ++ []) M') := r_call_static (k := 1) (by decide +kernel) (by decide +kernel) (by decide +kernel) (Nat.le_of_ble_eq_true rfl) (Nat.le_of_ble_eq_true rfl) rfl rfl d81_4
theorem d81_7 : decode (q_code 81) 7 = .ok (.ireturn, 1) := by decide +kernel
theorem gA_ringed_7 {Q : q_R} {M : q_M} {a0 : Nat} {s0 : Int32} : q_g 81 none Q 7 [some (.ref a0)] ([.int s0]) M = Q (some (.int s0)) M := r_iret (r := []) (by decide +kernel) d81_7
theorem e_A_row {Q : q_R} {M : q_M} {a0 : Nat} {a1 : Int32} : q_Run 82 [.ref a0, .int a1] M Q = q_g 82 none Q 0 [some (.ref a0), some (.int a1)] [] M := q_entry (Nat.le_of_ble_eq_true rfl) rfl
theorem d82_0 : decode (q_code 82) 0 = .ok (.iload_n 1, 1) := by decide +kernel
theorem gA_row_0 {Q : q_R} {M : q_M} {r : List Value} {a0 : Nat} {a1 : Int32} : q_g 82 none Q 0 [some (.ref a0), some (.int a1)] (r) M = q_g 82 none Q 1 [some (.ref a0), some (.int a1)] (.int a1 :: r) M := r_iload_n rfl d82_0
theorem d82_1 : decode (q_code 82) 1 = .ok (.ifCond .ge 10, 3) := by decide +kernel
theorem gA_row_1 {Q : q_R} {M : q_M} {r : List Value} {a0 : Nat} {a1 : Int32} {s0 : Int32} : q_g 82 none Q 1 [some (.ref a0), some (.int a1)] (.int s0 :: r) M = (if 0 ≤ s0 then q_g 82 none Q 11 [some (.ref a0), some (.int a1)] (r) M else q_g 82 none Q 4 [some (.ref a0), some (.int a1)] (r) M) := r_if_ge (by decide) (by decide) d82_1
theorem d82_4 : decode (q_code 82) 4 = .ok (.aload_n 0, 1) := by decide +kernel
theorem gA_row_4 {Q : q_R} {M : q_M} {r : List Value} {a0 : Nat} {a1 : Int32} : q_g 82 none Q 4 [some (.ref a0), some (.int a1)] (r) M = q_g 82 none Q 5 [some (.ref a0), some (.int a1)] (.ref a0 :: r) M := r_aload_n rfl d82_4
theorem d82_5 : decode (q_code 82) 5 = .ok (.bipush (-4), 2) := by decide +kernel
theorem gA_row_5 {Q : q_R} {M : q_M} {r : List Value} {a0 : Nat} {a1 : Int32} : q_g 82 none Q 5 [some (.ref a0), some (.int a1)] (r) M = q_g 82 none Q 7 [some (.ref a0), some (.int a1)] (.int (-4) :: r) M := r_bipush (by decide) d82_5
theorem d82_7 : decode (q_code 82) 7 = .ok (.invokevirtual 51, 3) := by decide +kernel
theorem gA_row_7 {Q : q_R} {M : q_M} {a0 : Nat} {a1 : Int32} {s0 : Int32} {s1 : Nat} : q_g 82 none Q 7 [some (.ref a0), some (.int a1)] ([.int s0, .ref s1]) M = (q_isC 3 s1 = true ∧ q_Run 79 [.ref s1, .int s0] M (fun v M' => q_g 82 none Q 10 [some (.ref a0), some (.int a1)] (v.toList ++ []) M')) := r_call_virtual (k := 2) (by decide +kernel) (by decide +kernel) (Nat.le_of_ble_eq_true rfl) (Nat.le_of_ble_eq_true rfl) rfl rfl d82_7
theorem d82_10 : decode (q_code 82) 10 = .ok (.ireturn, 1) := by decide +kernel
theorem gA_row_10 {Q : q_R} {M : q_M} {a0 : Nat} {a1 : Int32} {s0 : Int32} : q_g 82 none Q 10 [some (.ref a0), some (.int a1)] ([.int s0]) M = Q (some (.int s0)) M := r_iret (r := []) (by decide +kernel) d82_10
theorem d82_11 : decode (q_code 82) 11 = .ok (.iload_n 1, 1) := by decide +kernel
theorem gA_row_11 {Q : q_R} {M : q_M} {r : List Value} {a0 : Nat} {a1 : Int32} : q_g 82 none Q 11 [some (.ref a0), some (.int a1)] (r) M = q_g 82 none Q 12 [some (.ref a0), some (.int a1)] (.int a1 :: r) M := r_iload_n rfl d82_11
theorem d82_12 : decode (q_code 82) 12 = .ok (.bipush 10, 2) := by decide +kernel
theorem gA_row_12 {Q : q_R} {M : q_M} {r : List Value} {a0 : Nat} {a1 : Int32} : q_g 82 none Q 12 [some (.ref a0), some (.int a1)] (r) M = q_g 82 none Q 14 [some (.ref a0), some (.int a1)] (.int 10 :: r) M := r_bipush (by decide) d82_12
theorem d82_14 : decode (q_code 82) 14 = .ok (.if_icmp .ge 12, 3) := by decide +kernel
theorem gA_row_14 {Q : q_R} {M : q_M} {r : List Value} {a0 : Nat} {a1 : Int32} {s0 : Int32} {s1 : Int32} : q_g 82 none Q 14 [some (.ref a0), some (.int a1)] (.int s0 :: .int s1 :: r) M = (if s0 ≤ s1 then q_g 82 none Q 26 [some (.ref a0), some (.int a1)] (r) M else q_g 82 none Q 17 [some (.ref a0), some (.int a1)] (r) M) := r_icmp_ge (by decide) (by decide) d82_14
theorem d82_17 : decode (q_code 82) 17 = .ok (.aload_n 0, 1) := by decide +kernel
theorem gA_row_17 {Q : q_R} {M : q_M} {r : List Value} {a0 : Nat} {a1 : Int32} : q_g 82 none Q 17 [some (.ref a0), some (.int a1)] (r) M = q_g 82 none Q 18 [some (.ref a0), some (.int a1)] (.ref a0 :: r) M := r_aload_n rfl d82_17
theorem d82_18 : decode (q_code 82) 18 = .ok (.getfield 43, 3) := by decide +kernel
theorem gA_row_18 {Q : q_R} {M : q_M} {r : List Value} {a0 : Nat} {a1 : Int32} {s0 : Nat} : q_g 82 none Q 18 [some (.ref a0), some (.int a1)] (.ref s0 :: r) M = (q_isC 3 s0 = true ∧ q_g 82 none Q 21 [some (.ref a0), some (.int a1)] (.int (M s0 7) :: r) M) := r_getI (by decide +kernel) (by decide +kernel) d82_18
theorem d82_21 : decode (q_code 82) 21 = .ok (.bipush 12, 2) := by decide +kernel
theorem gA_row_21 {Q : q_R} {M : q_M} {r : List Value} {a0 : Nat} {a1 : Int32} : q_g 82 none Q 21 [some (.ref a0), some (.int a1)] (r) M = q_g 82 none Q 23 [some (.ref a0), some (.int a1)] (.int 12 :: r) M := r_bipush (by decide) d82_21
theorem d82_23 : decode (q_code 82) 23 = .ok (.if_icmp .lt 10, 3) := by decide +kernel
theorem gA_row_23 {Q : q_R} {M : q_M} {r : List Value} {a0 : Nat} {a1 : Int32} {s0 : Int32} {s1 : Int32} : q_g 82 none Q 23 [some (.ref a0), some (.int a1)] (.int s0 :: .int s1 :: r) M = (if s1 < s0 then q_g 82 none Q 33 [some (.ref a0), some (.int a1)] (r) M else q_g 82 none Q 26 [some (.ref a0), some (.int a1)] (r) M) := r_icmp_lt (by decide) (by decide) d82_23
theorem d82_26 : decode (q_code 82) 26 = .ok (.aload_n 0, 1) := by decide +kernel
theorem gA_row_26 {Q : q_R} {M : q_M} {r : List Value} {a0 : Nat} {a1 : Int32} : q_g 82 none Q 26 [some (.ref a0), some (.int a1)] (r) M = q_g 82 none Q 27 [some (.ref a0), some (.int a1)] (.ref a0 :: r) M := r_aload_n rfl d82_26
theorem d82_27 : decode (q_code 82) 27 = .ok (.bipush (-6), 2) := by decide +kernel
theorem gA_row_27 {Q : q_R} {M : q_M} {r : List Value} {a0 : Nat} {a1 : Int32} : q_g 82 none Q 27 [some (.ref a0), some (.int a1)] (r) M = q_g 82 none Q 29 [some (.ref a0), some (.int a1)] (.int (-6) :: r) M := r_bipush (by decide) d82_27
theorem d82_29 : decode (q_code 82) 29 = .ok (.invokevirtual 51, 3) := by decide +kernel
theorem gA_row_29 {Q : q_R} {M : q_M} {a0 : Nat} {a1 : Int32} {s0 : Int32} {s1 : Nat} : q_g 82 none Q 29 [some (.ref a0), some (.int a1)] ([.int s0, .ref s1]) M = (q_isC 3 s1 = true ∧ q_Run 79 [.ref s1, .int s0] M (fun v M' => q_g 82 none Q 32 [some (.ref a0), some (.int a1)] (v.toList ++ []) M')) := r_call_virtual (k := 2) (by decide +kernel) (by decide +kernel) (Nat.le_of_ble_eq_true rfl) (Nat.le_of_ble_eq_true rfl) rfl rfl d82_29
theorem d82_32 : decode (q_code 82) 32 = .ok (.ireturn, 1) := by decide +kernel
theorem gA_row_32 {Q : q_R} {M : q_M} {a0 : Nat} {a1 : Int32} {s0 : Int32} : q_g 82 none Q 32 [some (.ref a0), some (.int a1)] ([.int s0]) M = Q (some (.int s0)) M := r_iret (r := []) (by decide +kernel) d82_32
theorem d82_33 : decode (q_code 82) 33 = .ok (.aload_n 0, 1) := by decide +kernel
theorem gA_row_33 {Q : q_R} {M : q_M} {r : List Value} {a0 : Nat} {a1 : Int32} : q_g 82 none Q 33 [some (.ref a0), some (.int a1)] (r) M = q_g 82 none Q 34 [some (.ref a0), some (.int a1)] (.ref a0 :: r) M := r_aload_n rfl d82_33
theorem d82_34 : decode (q_code 82) 34 = .ok (.getfield 36, 3) := by decide +kernel
theorem gA_row_34 {Q : q_R} {M : q_M} {r : List Value} {a0 : Nat} {a1 : Int32} {s0 : Nat} : q_g 82 none Q 34 [some (.ref a0), some (.int a1)] (.ref s0 :: r) M = (q_isC 3 s0 = true ∧ q_g 82 none Q 37 [some (.ref a0), some (.int a1)] (.ref (q_rf s0 5) :: r) M) := r_getR (by decide +kernel) (by decide +kernel) d82_34
theorem d82_37 : decode (q_code 82) 37 = .ok (.aload_n 0, 1) := by decide +kernel
theorem gA_row_37 {Q : q_R} {M : q_M} {r : List Value} {a0 : Nat} {a1 : Int32} : q_g 82 none Q 37 [some (.ref a0), some (.int a1)] (r) M = q_g 82 none Q 38 [some (.ref a0), some (.int a1)] (.ref a0 :: r) M := r_aload_n rfl d82_37
theorem d82_38 : decode (q_code 82) 38 = .ok (.getfield 43, 3) := by decide +kernel
theorem gA_row_38 {Q : q_R} {M : q_M} {r : List Value} {a0 : Nat} {a1 : Int32} {s0 : Nat} : q_g 82 none Q 38 [some (.ref a0), some (.int a1)] (.ref s0 :: r) M = (q_isC 3 s0 = true ∧ q_g 82 none Q 41 [some (.ref a0), some (.int a1)] (.int (M s0 7) :: r) M) := r_getI (by decide +kernel) (by decide +kernel) d82_38
theorem d82_41 : decode (q_code 82) 41 = .ok (.iload_n 1, 1) := by decide +kernel
theorem gA_row_41 {Q : q_R} {M : q_M} {r : List Value} {a0 : Nat} {a1 : Int32} : q_g 82 none Q 41 [some (.ref a0), some (.int a1)] (r) M = q_g 82 none Q 42 [some (.ref a0), some (.int a1)] (.int a1 :: r) M := r_iload_n rfl d82_41
theorem d82_42 : decode (q_code 82) 42 = .ok (.invokestatic 211, 3) := by decide +kernel
theorem gA_row_42 {Q : q_R} {M : q_M} {a0 : Nat} {a1 : Int32} {s0 : Int32} {s1 : Int32} {s2 : Nat} : q_g 82 none Q 42 [some (.ref a0), some (.int a1)] ([.int s0, .int s1, .ref s2]) M = q_Run 2 [.ref s2, .int s1, .int s0] M (fun v M' => q_g 82 none Q 45 [some (.ref a0), some (.int a1)] (v.toList ++ []) M') := r_call_static (k := 3) (by decide +kernel) (by decide +kernel) (by decide +kernel) (Nat.le_of_ble_eq_true rfl) (Nat.le_of_ble_eq_true rfl) rfl rfl d82_42
theorem d82_45 : decode (q_code 82) 45 = .ok (.aload_n 0, 1) := by decide +kernel
theorem gA_row_45 {Q : q_R} {M : q_M} {r : List Value} {a0 : Nat} {a1 : Int32} : q_g 82 none Q 45 [some (.ref a0), some (.int a1)] (r) M = q_g 82 none Q 46 [some (.ref a0), some (.int a1)] (.ref a0 :: r) M := r_aload_n rfl d82_45
theorem d82_46 : decode (q_code 82) 46 = .ok (.dup, 1) := by decide +kernel
theorem gA_row_46 {Q : q_R} {M : q_M} {r : List Value} {a0 : Nat} {a1 : Int32} {s0 : Nat} : q_g 82 none Q 46 [some (.ref a0), some (.int a1)] (.ref s0 :: r) M = q_g 82 none Q 47 [some (.ref a0), some (.int a1)] (.ref s0 :: .ref s0 :: r) M := r_dup rfl d82_46
theorem d82_47 : decode (q_code 82) 47 = .ok (.getfield 43, 3) := by decide +kernel
theorem gA_row_47 {Q : q_R} {M : q_M} {r : List Value} {a0 : Nat} {a1 : Int32} {s0 : Nat} : q_g 82 none Q 47 [some (.ref a0), some (.int a1)] (.ref s0 :: r) M = (q_isC 3 s0 = true ∧ q_g 82 none Q 50 [some (.ref a0), some (.int a1)] (.int (M s0 7) :: r) M) := r_getI (by decide +kernel) (by decide +kernel) d82_47
theorem d82_50 : decode (q_code 82) 50 = .ok (.iconst 1, 1) := by decide +kernel
theorem gA_row_50 {Q : q_R} {M : q_M} {r : List Value} {a0 : Nat} {a1 : Int32} : q_g 82 none Q 50 [some (.ref a0), some (.int a1)] (r) M = q_g 82 none Q 51 [some (.ref a0), some (.int a1)] (.int 1 :: r) M := r_iconst (by decide) d82_50
theorem d82_51 : decode (q_code 82) 51 = .ok (.iadd, 1) := by decide +kernel
theorem gA_row_51 {Q : q_R} {M : q_M} {r : List Value} {a0 : Nat} {a1 : Int32} {s0 : Int32} {s1 : Int32} : q_g 82 none Q 51 [some (.ref a0), some (.int a1)] (.int s0 :: .int s1 :: r) M = q_g 82 none Q 52 [some (.ref a0), some (.int a1)] (.int (s1 + s0) :: r) M := r_iadd d82_51
theorem d82_52 : decode (q_code 82) 52 = .ok (.putfield 43, 3) := by decide +kernel
theorem gA_row_52 {Q : q_R} {M : q_M} {r : List Value} {a0 : Nat} {a1 : Int32} {s0 : Int32} {s1 : Nat} : q_g 82 none Q 52 [some (.ref a0), some (.int a1)] (.int s0 :: .ref s1 :: r) M = (q_isC 3 s1 = true ∧ q_g 82 none Q 55 [some (.ref a0), some (.int a1)] (r) (q_put M s1 7 s0)) := r_putI (by decide +kernel) (by decide +kernel) (by decide +kernel) d82_52
theorem d82_55 : decode (q_code 82) 55 = .ok (.aload_n 0, 1) := by decide +kernel
theorem gA_row_55 {Q : q_R} {M : q_M} {r : List Value} {a0 : Nat} {a1 : Int32} : q_g 82 none Q 55 [some (.ref a0), some (.int a1)] (r) M = q_g 82 none Q 56 [some (.ref a0), some (.int a1)] (.ref a0 :: r) M := r_aload_n rfl d82_55
theorem d82_56 : decode (q_code 82) 56 = .ok (.getfield 43, 3) := by decide +kernel
theorem gA_row_56 {Q : q_R} {M : q_M} {r : List Value} {a0 : Nat} {a1 : Int32} {s0 : Nat} : q_g 82 none Q 56 [some (.ref a0), some (.int a1)] (.ref s0 :: r) M = (q_isC 3 s0 = true ∧ q_g 82 none Q 59 [some (.ref a0), some (.int a1)] (.int (M s0 7) :: r) M) := r_getI (by decide +kernel) (by decide +kernel) d82_56
theorem d82_59 : decode (q_code 82) 59 = .ok (.ireturn, 1) := by decide +kernel
theorem gA_row_59 {Q : q_R} {M : q_M} {a0 : Nat} {a1 : Int32} {s0 : Int32} : q_g 82 none Q 59 [some (.ref a0), some (.int a1)] ([.int s0]) M = Q (some (.int s0)) M := r_iret (r := []) (by decide +kernel) d82_59
theorem e_A_seeker {Q : q_R} {M : q_M} {a0 : Nat} {a1 : Int32} {a2 : Int32} : q_Run 83 [.ref a0, .int a1, .int a2] M Q = q_g 83 none Q 0 [some (.ref a0), some (.int a1), some (.int a2)] [] M := q_entry (Nat.le_of_ble_eq_true rfl) rfl
theorem d83_0 : decode (q_code 83) 0 = .ok (.iload_n 1, 1) := by decide +kernel
theorem gA_seeker_0 {Q : q_R} {M : q_M} {r : List Value} {a0 : Nat} {a1 : Int32} {a2 : Int32} : q_g 83 none Q 0 [some (.ref a0), some (.int a1), some (.int a2)] (r) M = q_g 83 none Q 1 [some (.ref a0), some (.int a1), some (.int a2)] (.int a1 :: r) M := r_iload_n rfl d83_0
theorem d83_1 : decode (q_code 83) 1 = .ok (.invokestatic 200, 3) := by decide +kernel
theorem gA_seeker_1 {Q : q_R} {M : q_M} {a0 : Nat} {a1 : Int32} {a2 : Int32} {s0 : Int32} : q_g 83 none Q 1 [some (.ref a0), some (.int a1), some (.int a2)] ([.int s0]) M = q_Run 67 [.int s0] M (fun v M' => q_g 83 none Q 4 [some (.ref a0), some (.int a1), some (.int a2)] (v.toList ++ []) M') := r_call_static (k := 1) (by decide +kernel) (by decide +kernel) (by decide +kernel) (Nat.le_of_ble_eq_true rfl) (Nat.le_of_ble_eq_true rfl) rfl rfl d83_1
theorem d83_4 : decode (q_code 83) 4 = .ok (.ifCond .eq 10, 3) := by decide +kernel
theorem gA_seeker_4 {Q : q_R} {M : q_M} {r : List Value} {a0 : Nat} {a1 : Int32} {a2 : Int32} {s0 : Int32} : q_g 83 none Q 4 [some (.ref a0), some (.int a1), some (.int a2)] (.int s0 :: r) M = (if s0 = 0 then q_g 83 none Q 14 [some (.ref a0), some (.int a1), some (.int a2)] (r) M else q_g 83 none Q 7 [some (.ref a0), some (.int a1), some (.int a2)] (r) M) := r_if_eq (by decide) (by decide) d83_4
theorem d83_7 : decode (q_code 83) 7 = .ok (.aload_n 0, 1) := by decide +kernel
theorem gA_seeker_7 {Q : q_R} {M : q_M} {r : List Value} {a0 : Nat} {a1 : Int32} {a2 : Int32} : q_g 83 none Q 7 [some (.ref a0), some (.int a1), some (.int a2)] (r) M = q_g 83 none Q 8 [some (.ref a0), some (.int a1), some (.int a2)] (.ref a0 :: r) M := r_aload_n rfl d83_7
theorem d83_8 : decode (q_code 83) 8 = .ok (.bipush (-2), 2) := by decide +kernel
theorem gA_seeker_8 {Q : q_R} {M : q_M} {r : List Value} {a0 : Nat} {a1 : Int32} {a2 : Int32} : q_g 83 none Q 8 [some (.ref a0), some (.int a1), some (.int a2)] (r) M = q_g 83 none Q 10 [some (.ref a0), some (.int a1), some (.int a2)] (.int (-2) :: r) M := r_bipush (by decide) d83_8
theorem d83_10 : decode (q_code 83) 10 = .ok (.invokevirtual 51, 3) := by decide +kernel
theorem gA_seeker_10 {Q : q_R} {M : q_M} {a0 : Nat} {a1 : Int32} {a2 : Int32} {s0 : Int32} {s1 : Nat} : q_g 83 none Q 10 [some (.ref a0), some (.int a1), some (.int a2)] ([.int s0, .ref s1]) M = (q_isC 3 s1 = true ∧ q_Run 79 [.ref s1, .int s0] M (fun v M' => q_g 83 none Q 13 [some (.ref a0), some (.int a1), some (.int a2)] (v.toList ++ []) M')) := r_call_virtual (k := 2) (by decide +kernel) (by decide +kernel) (Nat.le_of_ble_eq_true rfl) (Nat.le_of_ble_eq_true rfl) rfl rfl d83_10
theorem d83_13 : decode (q_code 83) 13 = .ok (.ireturn, 1) := by decide +kernel
theorem gA_seeker_13 {Q : q_R} {M : q_M} {a0 : Nat} {a1 : Int32} {a2 : Int32} {s0 : Int32} : q_g 83 none Q 13 [some (.ref a0), some (.int a1), some (.int a2)] ([.int s0]) M = Q (some (.int s0)) M := r_iret (r := []) (by decide +kernel) d83_13
theorem d83_14 : decode (q_code 83) 14 = .ok (.iload_n 2, 1) := by decide +kernel
theorem gA_seeker_14 {Q : q_R} {M : q_M} {r : List Value} {a0 : Nat} {a1 : Int32} {a2 : Int32} : q_g 83 none Q 14 [some (.ref a0), some (.int a1), some (.int a2)] (r) M = q_g 83 none Q 15 [some (.ref a0), some (.int a1), some (.int a2)] (.int a2 :: r) M := r_iload_n rfl d83_14
theorem d83_15 : decode (q_code 83) 15 = .ok (.ifCond .ge 10, 3) := by decide +kernel
theorem gA_seeker_15 {Q : q_R} {M : q_M} {r : List Value} {a0 : Nat} {a1 : Int32} {a2 : Int32} {s0 : Int32} : q_g 83 none Q 15 [some (.ref a0), some (.int a1), some (.int a2)] (.int s0 :: r) M = (if 0 ≤ s0 then q_g 83 none Q 25 [some (.ref a0), some (.int a1), some (.int a2)] (r) M else q_g 83 none Q 18 [some (.ref a0), some (.int a1), some (.int a2)] (r) M) := r_if_ge (by decide) (by decide) d83_15
theorem d83_18 : decode (q_code 83) 18 = .ok (.aload_n 0, 1) := by decide +kernel
theorem gA_seeker_18 {Q : q_R} {M : q_M} {r : List Value} {a0 : Nat} {a1 : Int32} {a2 : Int32} : q_g 83 none Q 18 [some (.ref a0), some (.int a1), some (.int a2)] (r) M = q_g 83 none Q 19 [some (.ref a0), some (.int a1), some (.int a2)] (.ref a0 :: r) M := r_aload_n rfl d83_18
theorem d83_19 : decode (q_code 83) 19 = .ok (.bipush (-4), 2) := by decide +kernel
theorem gA_seeker_19 {Q : q_R} {M : q_M} {r : List Value} {a0 : Nat} {a1 : Int32} {a2 : Int32} : q_g 83 none Q 19 [some (.ref a0), some (.int a1), some (.int a2)] (r) M = q_g 83 none Q 21 [some (.ref a0), some (.int a1), some (.int a2)] (.int (-4) :: r) M := r_bipush (by decide) d83_19
theorem d83_21 : decode (q_code 83) 21 = .ok (.invokevirtual 51, 3) := by decide +kernel
theorem gA_seeker_21 {Q : q_R} {M : q_M} {a0 : Nat} {a1 : Int32} {a2 : Int32} {s0 : Int32} {s1 : Nat} : q_g 83 none Q 21 [some (.ref a0), some (.int a1), some (.int a2)] ([.int s0, .ref s1]) M = (q_isC 3 s1 = true ∧ q_Run 79 [.ref s1, .int s0] M (fun v M' => q_g 83 none Q 24 [some (.ref a0), some (.int a1), some (.int a2)] (v.toList ++ []) M')) := r_call_virtual (k := 2) (by decide +kernel) (by decide +kernel) (Nat.le_of_ble_eq_true rfl) (Nat.le_of_ble_eq_true rfl) rfl rfl d83_21
theorem d83_24 : decode (q_code 83) 24 = .ok (.ireturn, 1) := by decide +kernel
theorem gA_seeker_24 {Q : q_R} {M : q_M} {a0 : Nat} {a1 : Int32} {a2 : Int32} {s0 : Int32} : q_g 83 none Q 24 [some (.ref a0), some (.int a1), some (.int a2)] ([.int s0]) M = Q (some (.int s0)) M := r_iret (r := []) (by decide +kernel) d83_24
theorem d83_25 : decode (q_code 83) 25 = .ok (.aload_n 0, 1) := by decide +kernel
theorem gA_seeker_25 {Q : q_R} {M : q_M} {r : List Value} {a0 : Nat} {a1 : Int32} {a2 : Int32} : q_g 83 none Q 25 [some (.ref a0), some (.int a1), some (.int a2)] (r) M = q_g 83 none Q 26 [some (.ref a0), some (.int a1), some (.int a2)] (.ref a0 :: r) M := r_aload_n rfl d83_25
theorem d83_26 : decode (q_code 83) 26 = .ok (.getfield 10, 3) := by decide +kernel
theorem gA_seeker_26 {Q : q_R} {M : q_M} {r : List Value} {a0 : Nat} {a1 : Int32} {a2 : Int32} {s0 : Nat} : q_g 83 none Q 26 [some (.ref a0), some (.int a1), some (.int a2)] (.ref s0 :: r) M = (q_isC 3 s0 = true ∧ q_g 83 none Q 29 [some (.ref a0), some (.int a1), some (.int a2)] (.ref (q_rf s0 0) :: r) M) := r_getR (by decide +kernel) (by decide +kernel) d83_26
theorem d83_29 : decode (q_code 83) 29 = .ok (.iload_n 1, 1) := by decide +kernel
theorem gA_seeker_29 {Q : q_R} {M : q_M} {r : List Value} {a0 : Nat} {a1 : Int32} {a2 : Int32} : q_g 83 none Q 29 [some (.ref a0), some (.int a1), some (.int a2)] (r) M = q_g 83 none Q 30 [some (.ref a0), some (.int a1), some (.int a2)] (.int a1 :: r) M := r_iload_n rfl d83_29
theorem d83_30 : decode (q_code 83) 30 = .ok (.iload_n 2, 1) := by decide +kernel
theorem gA_seeker_30 {Q : q_R} {M : q_M} {r : List Value} {a0 : Nat} {a1 : Int32} {a2 : Int32} : q_g 83 none Q 30 [some (.ref a0), some (.int a1), some (.int a2)] (r) M = q_g 83 none Q 31 [some (.ref a0), some (.int a1), some (.int a2)] (.int a2 :: r) M := r_iload_n rfl d83_30
theorem d83_31 : decode (q_code 83) 31 = .ok (.invokestatic 203, 3) := by decide +kernel
theorem gA_seeker_31 {Q : q_R} {M : q_M} {a0 : Nat} {a1 : Int32} {a2 : Int32} {s0 : Int32} {s1 : Int32} {s2 : Nat} : q_g 83 none Q 31 [some (.ref a0), some (.int a1), some (.int a2)] ([.int s0, .int s1, .ref s2]) M = q_Run 55 [.ref s2, .int s1, .int s0] M (fun v M' => q_g 83 none Q 34 [some (.ref a0), some (.int a1), some (.int a2)] (v.toList ++ []) M') := r_call_static (k := 3) (by decide +kernel) (by decide +kernel) (by decide +kernel) (Nat.le_of_ble_eq_true rfl) (Nat.le_of_ble_eq_true rfl) rfl rfl d83_31
theorem d83_34 : decode (q_code 83) 34 = .ok (.ireturn, 1) := by decide +kernel
theorem gA_seeker_34 {Q : q_R} {M : q_M} {a0 : Nat} {a1 : Int32} {a2 : Int32} {s0 : Int32} : q_g 83 none Q 34 [some (.ref a0), some (.int a1), some (.int a2)] ([.int s0]) M = Q (some (.int s0)) M := r_iret (r := []) (by decide +kernel) d83_34
theorem e_A_seeks {Q : q_R} {M : q_M} {a0 : Nat} {a1 : Int32} : q_Run 84 [.ref a0, .int a1] M Q = q_g 84 none Q 0 [some (.ref a0), some (.int a1)] [] M := q_entry (Nat.le_of_ble_eq_true rfl) rfl
theorem d84_0 : decode (q_code 84) 0 = .ok (.iload_n 1, 1) := by decide +kernel
theorem gA_seeks_0 {Q : q_R} {M : q_M} {r : List Value} {a0 : Nat} {a1 : Int32} : q_g 84 none Q 0 [some (.ref a0), some (.int a1)] (r) M = q_g 84 none Q 1 [some (.ref a0), some (.int a1)] (.int a1 :: r) M := r_iload_n rfl d84_0
theorem d84_1 : decode (q_code 84) 1 = .ok (.invokestatic 200, 3) := by decide +kernel
theorem gA_seeks_1 {Q : q_R} {M : q_M} {a0 : Nat} {a1 : Int32} {s0 : Int32} : q_g 84 none Q 1 [some (.ref a0), some (.int a1)] ([.int s0]) M = q_Run 67 [.int s0] M (fun v M' => q_g 84 none Q 4 [some (.ref a0), some (.int a1)] (v.toList ++ []) M') := r_call_static (k := 1) (by decide +kernel) (by decide +kernel) (by decide +kernel) (Nat.le_of_ble_eq_true rfl) (Nat.le_of_ble_eq_true rfl) rfl rfl d84_1
theorem d84_4 : decode (q_code 84) 4 = .ok (.ifCond .eq 10, 3) := by decide +kernel
theorem gA_seeks_4 {Q : q_R} {M : q_M} {r : List Value} {a0 : Nat} {a1 : Int32} {s0 : Int32} : q_g 84 none Q 4 [some (.ref a0), some (.int a1)] (.int s0 :: r) M = (if s0 = 0 then q_g 84 none Q 14 [some (.ref a0), some (.int a1)] (r) M else q_g 84 none Q 7 [some (.ref a0), some (.int a1)] (r) M) := r_if_eq (by decide) (by decide) d84_4
theorem d84_7 : decode (q_code 84) 7 = .ok (.aload_n 0, 1) := by decide +kernel
theorem gA_seeks_7 {Q : q_R} {M : q_M} {r : List Value} {a0 : Nat} {a1 : Int32} : q_g 84 none Q 7 [some (.ref a0), some (.int a1)] (r) M = q_g 84 none Q 8 [some (.ref a0), some (.int a1)] (.ref a0 :: r) M := r_aload_n rfl d84_7
theorem d84_8 : decode (q_code 84) 8 = .ok (.bipush (-2), 2) := by decide +kernel
theorem gA_seeks_8 {Q : q_R} {M : q_M} {r : List Value} {a0 : Nat} {a1 : Int32} : q_g 84 none Q 8 [some (.ref a0), some (.int a1)] (r) M = q_g 84 none Q 10 [some (.ref a0), some (.int a1)] (.int (-2) :: r) M := r_bipush (by decide) d84_8
theorem d84_10 : decode (q_code 84) 10 = .ok (.invokevirtual 51, 3) := by decide +kernel
theorem gA_seeks_10 {Q : q_R} {M : q_M} {a0 : Nat} {a1 : Int32} {s0 : Int32} {s1 : Nat} : q_g 84 none Q 10 [some (.ref a0), some (.int a1)] ([.int s0, .ref s1]) M = (q_isC 3 s1 = true ∧ q_Run 79 [.ref s1, .int s0] M (fun v M' => q_g 84 none Q 13 [some (.ref a0), some (.int a1)] (v.toList ++ []) M')) := r_call_virtual (k := 2) (by decide +kernel) (by decide +kernel) (Nat.le_of_ble_eq_true rfl) (Nat.le_of_ble_eq_true rfl) rfl rfl d84_10
theorem d84_13 : decode (q_code 84) 13 = .ok (.ireturn, 1) := by decide +kernel
theorem gA_seeks_13 {Q : q_R} {M : q_M} {a0 : Nat} {a1 : Int32} {s0 : Int32} : q_g 84 none Q 13 [some (.ref a0), some (.int a1)] ([.int s0]) M = Q (some (.int s0)) M := r_iret (r := []) (by decide +kernel) d84_13
theorem d84_14 : decode (q_code 84) 14 = .ok (.aload_n 0, 1) := by decide +kernel
theorem gA_seeks_14 {Q : q_R} {M : q_M} {r : List Value} {a0 : Nat} {a1 : Int32} : q_g 84 none Q 14 [some (.ref a0), some (.int a1)] (r) M = q_g 84 none Q 15 [some (.ref a0), some (.int a1)] (.ref a0 :: r) M := r_aload_n rfl d84_14
theorem d84_15 : decode (q_code 84) 15 = .ok (.getfield 10, 3) := by decide +kernel
theorem gA_seeks_15 {Q : q_R} {M : q_M} {r : List Value} {a0 : Nat} {a1 : Int32} {s0 : Nat} : q_g 84 none Q 15 [some (.ref a0), some (.int a1)] (.ref s0 :: r) M = (q_isC 3 s0 = true ∧ q_g 84 none Q 18 [some (.ref a0), some (.int a1)] (.ref (q_rf s0 0) :: r) M) := r_getR (by decide +kernel) (by decide +kernel) d84_15
theorem d84_18 : decode (q_code 84) 18 = .ok (.iload_n 1, 1) := by decide +kernel
theorem gA_seeks_18 {Q : q_R} {M : q_M} {r : List Value} {a0 : Nat} {a1 : Int32} : q_g 84 none Q 18 [some (.ref a0), some (.int a1)] (r) M = q_g 84 none Q 19 [some (.ref a0), some (.int a1)] (.int a1 :: r) M := r_iload_n rfl d84_18
theorem d84_19 : decode (q_code 84) 19 = .ok (.invokestatic 208, 3) := by decide +kernel
theorem gA_seeks_19 {Q : q_R} {M : q_M} {a0 : Nat} {a1 : Int32} {s0 : Int32} {s1 : Nat} : q_g 84 none Q 19 [some (.ref a0), some (.int a1)] ([.int s0, .ref s1]) M = q_Run 53 [.ref s1, .int s0] M (fun v M' => q_g 84 none Q 22 [some (.ref a0), some (.int a1)] (v.toList ++ []) M') := r_call_static (k := 2) (by decide +kernel) (by decide +kernel) (by decide +kernel) (Nat.le_of_ble_eq_true rfl) (Nat.le_of_ble_eq_true rfl) rfl rfl d84_19
theorem d84_22 : decode (q_code 84) 22 = .ok (.ireturn, 1) := by decide +kernel
theorem gA_seeks_22 {Q : q_R} {M : q_M} {a0 : Nat} {a1 : Int32} {s0 : Int32} : q_g 84 none Q 22 [some (.ref a0), some (.int a1)] ([.int s0]) M = Q (some (.int s0)) M := r_iret (r := []) (by decide +kernel) d84_22
theorem e_A_soonest {Q : q_R} {M : q_M} {a0 : Nat} {a1 : Int32} {a2 : Int32} : q_Run 85 [.ref a0, .int a1, .int a2] M Q = q_g 85 none Q 0 [some (.ref a0), some (.int a1), some (.int a2)] [] M := q_entry (Nat.le_of_ble_eq_true rfl) rfl
theorem d85_0 : decode (q_code 85) 0 = .ok (.aload_n 0, 1) := by decide +kernel
theorem gA_soonest_0 {Q : q_R} {M : q_M} {r : List Value} {a0 : Nat} {a1 : Int32} {a2 : Int32} : q_g 85 none Q 0 [some (.ref a0), some (.int a1), some (.int a2)] (r) M = q_g 85 none Q 1 [some (.ref a0), some (.int a1), some (.int a2)] (.ref a0 :: r) M := r_aload_n rfl d85_0
theorem d85_1 : decode (q_code 85) 1 = .ok (.getfield 10, 3) := by decide +kernel
theorem gA_soonest_1 {Q : q_R} {M : q_M} {r : List Value} {a0 : Nat} {a1 : Int32} {a2 : Int32} {s0 : Nat} : q_g 85 none Q 1 [some (.ref a0), some (.int a1), some (.int a2)] (.ref s0 :: r) M = (q_isC 3 s0 = true ∧ q_g 85 none Q 4 [some (.ref a0), some (.int a1), some (.int a2)] (.ref (q_rf s0 0) :: r) M) := r_getR (by decide +kernel) (by decide +kernel) d85_1
theorem d85_4 : decode (q_code 85) 4 = .ok (.iload_n 1, 1) := by decide +kernel
theorem gA_soonest_4 {Q : q_R} {M : q_M} {r : List Value} {a0 : Nat} {a1 : Int32} {a2 : Int32} : q_g 85 none Q 4 [some (.ref a0), some (.int a1), some (.int a2)] (r) M = q_g 85 none Q 5 [some (.ref a0), some (.int a1), some (.int a2)] (.int a1 :: r) M := r_iload_n rfl d85_4
theorem d85_5 : decode (q_code 85) 5 = .ok (.invokevirtual 119, 3) := by decide +kernel
theorem gA_soonest_5 {Q : q_R} {M : q_M} {a0 : Nat} {a1 : Int32} {a2 : Int32} {s0 : Int32} {s1 : Nat} : q_g 85 none Q 5 [some (.ref a0), some (.int a1), some (.int a2)] ([.int s0, .ref s1]) M = (q_isC 0 s1 = true ∧ q_Run 10 [.ref s1, .int s0] M (fun v M' => q_g 85 none Q 8 [some (.ref a0), some (.int a1), some (.int a2)] (v.toList ++ []) M')) := r_call_virtual (k := 2) (by decide +kernel) (by decide +kernel) (Nat.le_of_ble_eq_true rfl) (Nat.le_of_ble_eq_true rfl) rfl rfl d85_5
theorem d85_8 : decode (q_code 85) 8 = .ok (.ifCond .ne 9, 3) := by decide +kernel
theorem gA_soonest_8 {Q : q_R} {M : q_M} {r : List Value} {a0 : Nat} {a1 : Int32} {a2 : Int32} {s0 : Int32} : q_g 85 none Q 8 [some (.ref a0), some (.int a1), some (.int a2)] (.int s0 :: r) M = (if ¬ s0 = 0 then q_g 85 none Q 17 [some (.ref a0), some (.int a1), some (.int a2)] (r) M else q_g 85 none Q 11 [some (.ref a0), some (.int a1), some (.int a2)] (r) M) := r_if_ne (by decide) (by decide) d85_8
theorem d85_11 : decode (q_code 85) 11 = .ok (.aload_n 0, 1) := by decide +kernel
theorem gA_soonest_11 {Q : q_R} {M : q_M} {r : List Value} {a0 : Nat} {a1 : Int32} {a2 : Int32} : q_g 85 none Q 11 [some (.ref a0), some (.int a1), some (.int a2)] (r) M = q_g 85 none Q 12 [some (.ref a0), some (.int a1), some (.int a2)] (.ref a0 :: r) M := r_aload_n rfl d85_11
theorem d85_12 : decode (q_code 85) 12 = .ok (.iconst (-1), 1) := by decide +kernel
theorem gA_soonest_12 {Q : q_R} {M : q_M} {r : List Value} {a0 : Nat} {a1 : Int32} {a2 : Int32} : q_g 85 none Q 12 [some (.ref a0), some (.int a1), some (.int a2)] (r) M = q_g 85 none Q 13 [some (.ref a0), some (.int a1), some (.int a2)] (.int (-1) :: r) M := r_iconst (by decide) d85_12
theorem d85_13 : decode (q_code 85) 13 = .ok (.invokevirtual 51, 3) := by decide +kernel
theorem gA_soonest_13 {Q : q_R} {M : q_M} {a0 : Nat} {a1 : Int32} {a2 : Int32} {s0 : Int32} {s1 : Nat} : q_g 85 none Q 13 [some (.ref a0), some (.int a1), some (.int a2)] ([.int s0, .ref s1]) M = (q_isC 3 s1 = true ∧ q_Run 79 [.ref s1, .int s0] M (fun v M' => q_g 85 none Q 16 [some (.ref a0), some (.int a1), some (.int a2)] (v.toList ++ []) M')) := r_call_virtual (k := 2) (by decide +kernel) (by decide +kernel) (Nat.le_of_ble_eq_true rfl) (Nat.le_of_ble_eq_true rfl) rfl rfl d85_13
theorem d85_16 : decode (q_code 85) 16 = .ok (.ireturn, 1) := by decide +kernel
theorem gA_soonest_16 {Q : q_R} {M : q_M} {a0 : Nat} {a1 : Int32} {a2 : Int32} {s0 : Int32} : q_g 85 none Q 16 [some (.ref a0), some (.int a1), some (.int a2)] ([.int s0]) M = Q (some (.int s0)) M := r_iret (r := []) (by decide +kernel) d85_16
theorem d85_17 : decode (q_code 85) 17 = .ok (.iload_n 2, 1) := by decide +kernel
theorem gA_soonest_17 {Q : q_R} {M : q_M} {r : List Value} {a0 : Nat} {a1 : Int32} {a2 : Int32} : q_g 85 none Q 17 [some (.ref a0), some (.int a1), some (.int a2)] (r) M = q_g 85 none Q 18 [some (.ref a0), some (.int a1), some (.int a2)] (.int a2 :: r) M := r_iload_n rfl d85_17
theorem d85_18 : decode (q_code 85) 18 = .ok (.invokestatic 88, 3) := by decide +kernel
theorem gA_soonest_18 {Q : q_R} {M : q_M} {a0 : Nat} {a1 : Int32} {a2 : Int32} {s0 : Int32} : q_g 85 none Q 18 [some (.ref a0), some (.int a1), some (.int a2)] ([.int s0]) M = q_Run 66 [.int s0] M (fun v M' => q_g 85 none Q 21 [some (.ref a0), some (.int a1), some (.int a2)] (v.toList ++ []) M') := r_call_static (k := 1) (by decide +kernel) (by decide +kernel) (by decide +kernel) (Nat.le_of_ble_eq_true rfl) (Nat.le_of_ble_eq_true rfl) rfl rfl d85_18
theorem d85_21 : decode (q_code 85) 21 = .ok (.ifCond .eq 10, 3) := by decide +kernel
theorem gA_soonest_21 {Q : q_R} {M : q_M} {r : List Value} {a0 : Nat} {a1 : Int32} {a2 : Int32} {s0 : Int32} : q_g 85 none Q 21 [some (.ref a0), some (.int a1), some (.int a2)] (.int s0 :: r) M = (if s0 = 0 then q_g 85 none Q 31 [some (.ref a0), some (.int a1), some (.int a2)] (r) M else q_g 85 none Q 24 [some (.ref a0), some (.int a1), some (.int a2)] (r) M) := r_if_eq (by decide) (by decide) d85_21
theorem d85_24 : decode (q_code 85) 24 = .ok (.aload_n 0, 1) := by decide +kernel
theorem gA_soonest_24 {Q : q_R} {M : q_M} {r : List Value} {a0 : Nat} {a1 : Int32} {a2 : Int32} : q_g 85 none Q 24 [some (.ref a0), some (.int a1), some (.int a2)] (r) M = q_g 85 none Q 25 [some (.ref a0), some (.int a1), some (.int a2)] (.ref a0 :: r) M := r_aload_n rfl d85_24
theorem d85_25 : decode (q_code 85) 25 = .ok (.bipush (-2), 2) := by decide +kernel
theorem gA_soonest_25 {Q : q_R} {M : q_M} {r : List Value} {a0 : Nat} {a1 : Int32} {a2 : Int32} : q_g 85 none Q 25 [some (.ref a0), some (.int a1), some (.int a2)] (r) M = q_g 85 none Q 27 [some (.ref a0), some (.int a1), some (.int a2)] (.int (-2) :: r) M := r_bipush (by decide) d85_25
theorem d85_27 : decode (q_code 85) 27 = .ok (.invokevirtual 51, 3) := by decide +kernel
theorem gA_soonest_27 {Q : q_R} {M : q_M} {a0 : Nat} {a1 : Int32} {a2 : Int32} {s0 : Int32} {s1 : Nat} : q_g 85 none Q 27 [some (.ref a0), some (.int a1), some (.int a2)] ([.int s0, .ref s1]) M = (q_isC 3 s1 = true ∧ q_Run 79 [.ref s1, .int s0] M (fun v M' => q_g 85 none Q 30 [some (.ref a0), some (.int a1), some (.int a2)] (v.toList ++ []) M')) := r_call_virtual (k := 2) (by decide +kernel) (by decide +kernel) (Nat.le_of_ble_eq_true rfl) (Nat.le_of_ble_eq_true rfl) rfl rfl d85_27
theorem d85_30 : decode (q_code 85) 30 = .ok (.ireturn, 1) := by decide +kernel
theorem gA_soonest_30 {Q : q_R} {M : q_M} {a0 : Nat} {a1 : Int32} {a2 : Int32} {s0 : Int32} : q_g 85 none Q 30 [some (.ref a0), some (.int a1), some (.int a2)] ([.int s0]) M = Q (some (.int s0)) M := r_iret (r := []) (by decide +kernel) d85_30
theorem d85_31 : decode (q_code 85) 31 = .ok (.aload_n 0, 1) := by decide +kernel
theorem gA_soonest_31 {Q : q_R} {M : q_M} {r : List Value} {a0 : Nat} {a1 : Int32} {a2 : Int32} : q_g 85 none Q 31 [some (.ref a0), some (.int a1), some (.int a2)] (r) M = q_g 85 none Q 32 [some (.ref a0), some (.int a1), some (.int a2)] (.ref a0 :: r) M := r_aload_n rfl d85_31
theorem d85_32 : decode (q_code 85) 32 = .ok (.getfield 32, 3) := by decide +kernel
theorem gA_soonest_32 {Q : q_R} {M : q_M} {r : List Value} {a0 : Nat} {a1 : Int32} {a2 : Int32} {s0 : Nat} : q_g 85 none Q 32 [some (.ref a0), some (.int a1), some (.int a2)] (.ref s0 :: r) M = (q_isC 3 s0 = true ∧ q_g 85 none Q 35 [some (.ref a0), some (.int a1), some (.int a2)] (.ref (q_rf s0 4) :: r) M) := r_getR (by decide +kernel) (by decide +kernel) d85_32
theorem d85_35 : decode (q_code 85) 35 = .ok (.aload_n 0, 1) := by decide +kernel
theorem gA_soonest_35 {Q : q_R} {M : q_M} {r : List Value} {a0 : Nat} {a1 : Int32} {a2 : Int32} : q_g 85 none Q 35 [some (.ref a0), some (.int a1), some (.int a2)] (r) M = q_g 85 none Q 36 [some (.ref a0), some (.int a1), some (.int a2)] (.ref a0 :: r) M := r_aload_n rfl d85_35
theorem d85_36 : decode (q_code 85) 36 = .ok (.getfield 10, 3) := by decide +kernel
theorem gA_soonest_36 {Q : q_R} {M : q_M} {r : List Value} {a0 : Nat} {a1 : Int32} {a2 : Int32} {s0 : Nat} : q_g 85 none Q 36 [some (.ref a0), some (.int a1), some (.int a2)] (.ref s0 :: r) M = (q_isC 3 s0 = true ∧ q_g 85 none Q 39 [some (.ref a0), some (.int a1), some (.int a2)] (.ref (q_rf s0 0) :: r) M) := r_getR (by decide +kernel) (by decide +kernel) d85_36
theorem d85_39 : decode (q_code 85) 39 = .ok (.iload_n 1, 1) := by decide +kernel
theorem gA_soonest_39 {Q : q_R} {M : q_M} {r : List Value} {a0 : Nat} {a1 : Int32} {a2 : Int32} : q_g 85 none Q 39 [some (.ref a0), some (.int a1), some (.int a2)] (r) M = q_g 85 none Q 40 [some (.ref a0), some (.int a1), some (.int a2)] (.int a1 :: r) M := r_iload_n rfl d85_39
theorem d85_40 : decode (q_code 85) 40 = .ok (.iconst 0, 1) := by decide +kernel
theorem gA_soonest_40 {Q : q_R} {M : q_M} {r : List Value} {a0 : Nat} {a1 : Int32} {a2 : Int32} : q_g 85 none Q 40 [some (.ref a0), some (.int a1), some (.int a2)] (r) M = q_g 85 none Q 41 [some (.ref a0), some (.int a1), some (.int a2)] (.int 0 :: r) M := r_iconst (by decide) d85_40
theorem d85_41 : decode (q_code 85) 41 = .ok (.invokevirtual 125, 3) := by decide +kernel
theorem gA_soonest_41 {Q : q_R} {M : q_M} {a0 : Nat} {a1 : Int32} {a2 : Int32} {s0 : Int32} {s1 : Int32} {s2 : Nat} {s3 : Nat} : q_g 85 none Q 41 [some (.ref a0), some (.int a1), some (.int a2)] ([.int s0, .int s1, .ref s2, .ref s3]) M = (q_isC 1 s3 = true ∧ q_Run 25 [.ref s3, .ref s2, .int s1, .int s0] M (fun v M' => q_g 85 none Q 44 [some (.ref a0), some (.int a1), some (.int a2)] (v.toList ++ []) M')) := r_call_virtual (k := 4) (by decide +kernel) (by decide +kernel) (Nat.le_of_ble_eq_true rfl) (Nat.le_of_ble_eq_true rfl) rfl rfl d85_41
theorem d85_44 : decode (q_code 85) 44 = .ok (.aload_n 0, 1) := by decide +kernel
theorem gA_soonest_44 {Q : q_R} {M : q_M} {r : List Value} {a0 : Nat} {a1 : Int32} {a2 : Int32} : q_g 85 none Q 44 [some (.ref a0), some (.int a1), some (.int a2)] (r) M = q_g 85 none Q 45 [some (.ref a0), some (.int a1), some (.int a2)] (.ref a0 :: r) M := r_aload_n rfl d85_44
theorem d85_45 : decode (q_code 85) 45 = .ok (.getfield 32, 3) := by decide +kernel
theorem gA_soonest_45 {Q : q_R} {M : q_M} {r : List Value} {a0 : Nat} {a1 : Int32} {a2 : Int32} {s0 : Nat} : q_g 85 none Q 45 [some (.ref a0), some (.int a1), some (.int a2)] (.ref s0 :: r) M = (q_isC 3 s0 = true ∧ q_g 85 none Q 48 [some (.ref a0), some (.int a1), some (.int a2)] (.ref (q_rf s0 4) :: r) M) := r_getR (by decide +kernel) (by decide +kernel) d85_45
theorem d85_48 : decode (q_code 85) 48 = .ok (.getfield 129, 3) := by decide +kernel
theorem gA_soonest_48 {Q : q_R} {M : q_M} {r : List Value} {a0 : Nat} {a1 : Int32} {a2 : Int32} {s0 : Nat} : q_g 85 none Q 48 [some (.ref a0), some (.int a1), some (.int a2)] (.ref s0 :: r) M = (q_isC 1 s0 = true ∧ q_g 85 none Q 51 [some (.ref a0), some (.int a1), some (.int a2)] (.int (M s0 3) :: r) M) := r_getI (by decide +kernel) (by decide +kernel) d85_48
theorem d85_51 : decode (q_code 85) 51 = .ok (.ifCond .ne 6, 3) := by decide +kernel
theorem gA_soonest_51 {Q : q_R} {M : q_M} {r : List Value} {a0 : Nat} {a1 : Int32} {a2 : Int32} {s0 : Int32} : q_g 85 none Q 51 [some (.ref a0), some (.int a1), some (.int a2)] (.int s0 :: r) M = (if ¬ s0 = 0 then q_g 85 none Q 57 [some (.ref a0), some (.int a1), some (.int a2)] (r) M else q_g 85 none Q 54 [some (.ref a0), some (.int a1), some (.int a2)] (r) M) := r_if_ne (by decide) (by decide) d85_51
theorem d85_54 : decode (q_code 85) 54 = .ok (.bipush (-9), 2) := by decide +kernel
theorem gA_soonest_54 {Q : q_R} {M : q_M} {r : List Value} {a0 : Nat} {a1 : Int32} {a2 : Int32} : q_g 85 none Q 54 [some (.ref a0), some (.int a1), some (.int a2)] (r) M = q_g 85 none Q 56 [some (.ref a0), some (.int a1), some (.int a2)] (.int (-9) :: r) M := r_bipush (by decide) d85_54
theorem d85_56 : decode (q_code 85) 56 = .ok (.ireturn, 1) := by decide +kernel
theorem gA_soonest_56 {Q : q_R} {M : q_M} {a0 : Nat} {a1 : Int32} {a2 : Int32} {s0 : Int32} : q_g 85 none Q 56 [some (.ref a0), some (.int a1), some (.int a2)] ([.int s0]) M = Q (some (.int s0)) M := r_iret (r := []) (by decide +kernel) d85_56
theorem d85_57 : decode (q_code 85) 57 = .ok (.iload_n 2, 1) := by decide +kernel
theorem gA_soonest_57 {Q : q_R} {M : q_M} {r : List Value} {a0 : Nat} {a1 : Int32} {a2 : Int32} : q_g 85 none Q 57 [some (.ref a0), some (.int a1), some (.int a2)] (r) M = q_g 85 none Q 58 [some (.ref a0), some (.int a1), some (.int a2)] (.int a2 :: r) M := r_iload_n rfl d85_57
theorem d85_58 : decode (q_code 85) 58 = .ok (.ifCond .ne 13, 3) := by decide +kernel
theorem gA_soonest_58 {Q : q_R} {M : q_M} {r : List Value} {a0 : Nat} {a1 : Int32} {a2 : Int32} {s0 : Int32} : q_g 85 none Q 58 [some (.ref a0), some (.int a1), some (.int a2)] (.int s0 :: r) M = (if ¬ s0 = 0 then q_g 85 none Q 71 [some (.ref a0), some (.int a1), some (.int a2)] (r) M else q_g 85 none Q 61 [some (.ref a0), some (.int a1), some (.int a2)] (r) M) := r_if_ne (by decide) (by decide) d85_58
theorem d85_61 : decode (q_code 85) 61 = .ok (.aload_n 0, 1) := by decide +kernel
theorem gA_soonest_61 {Q : q_R} {M : q_M} {r : List Value} {a0 : Nat} {a1 : Int32} {a2 : Int32} : q_g 85 none Q 61 [some (.ref a0), some (.int a1), some (.int a2)] (r) M = q_g 85 none Q 62 [some (.ref a0), some (.int a1), some (.int a2)] (.ref a0 :: r) M := r_aload_n rfl d85_61
theorem d85_62 : decode (q_code 85) 62 = .ok (.getfield 32, 3) := by decide +kernel
theorem gA_soonest_62 {Q : q_R} {M : q_M} {r : List Value} {a0 : Nat} {a1 : Int32} {a2 : Int32} {s0 : Nat} : q_g 85 none Q 62 [some (.ref a0), some (.int a1), some (.int a2)] (.ref s0 :: r) M = (q_isC 3 s0 = true ∧ q_g 85 none Q 65 [some (.ref a0), some (.int a1), some (.int a2)] (.ref (q_rf s0 4) :: r) M) := r_getR (by decide +kernel) (by decide +kernel) d85_62
theorem d85_65 : decode (q_code 85) 65 = .ok (.getfield 132, 3) := by decide +kernel
theorem gA_soonest_65 {Q : q_R} {M : q_M} {r : List Value} {a0 : Nat} {a1 : Int32} {a2 : Int32} {s0 : Nat} : q_g 85 none Q 65 [some (.ref a0), some (.int a1), some (.int a2)] (.ref s0 :: r) M = (q_isC 1 s0 = true ∧ q_g 85 none Q 68 [some (.ref a0), some (.int a1), some (.int a2)] (.int (M s0 4) :: r) M) := r_getI (by decide +kernel) (by decide +kernel) d85_65
theorem d85_68 : decode (q_code 85) 68 = .ok (.goto 10, 3) := by decide +kernel
theorem gA_soonest_68 {Q : q_R} {M : q_M} {r : List Value} {a0 : Nat} {a1 : Int32} {a2 : Int32} : q_g 85 none Q 68 [some (.ref a0), some (.int a1), some (.int a2)] (r) M = q_g 85 none Q 78 [some (.ref a0), some (.int a1), some (.int a2)] (r) M := r_goto (by decide) (by decide) d85_68
theorem d85_71 : decode (q_code 85) 71 = .ok (.aload_n 0, 1) := by decide +kernel
theorem gA_soonest_71 {Q : q_R} {M : q_M} {r : List Value} {a0 : Nat} {a1 : Int32} {a2 : Int32} : q_g 85 none Q 71 [some (.ref a0), some (.int a1), some (.int a2)] (r) M = q_g 85 none Q 72 [some (.ref a0), some (.int a1), some (.int a2)] (.ref a0 :: r) M := r_aload_n rfl d85_71
theorem d85_72 : decode (q_code 85) 72 = .ok (.getfield 32, 3) := by decide +kernel
theorem gA_soonest_72 {Q : q_R} {M : q_M} {r : List Value} {a0 : Nat} {a1 : Int32} {a2 : Int32} {s0 : Nat} : q_g 85 none Q 72 [some (.ref a0), some (.int a1), some (.int a2)] (.ref s0 :: r) M = (q_isC 3 s0 = true ∧ q_g 85 none Q 75 [some (.ref a0), some (.int a1), some (.int a2)] (.ref (q_rf s0 4) :: r) M) := r_getR (by decide +kernel) (by decide +kernel) d85_72
theorem d85_75 : decode (q_code 85) 75 = .ok (.getfield 135, 3) := by decide +kernel
theorem gA_soonest_75 {Q : q_R} {M : q_M} {r : List Value} {a0 : Nat} {a1 : Int32} {a2 : Int32} {s0 : Nat} : q_g 85 none Q 75 [some (.ref a0), some (.int a1), some (.int a2)] (.ref s0 :: r) M = (q_isC 1 s0 = true ∧ q_g 85 none Q 78 [some (.ref a0), some (.int a1), some (.int a2)] (.int (M s0 5) :: r) M) := r_getI (by decide +kernel) (by decide +kernel) d85_75
theorem d85_78 : decode (q_code 85) 78 = .ok (.ireturn, 1) := by decide +kernel
theorem gA_soonest_78 {Q : q_R} {M : q_M} {a0 : Nat} {a1 : Int32} {a2 : Int32} {s0 : Int32} : q_g 85 none Q 78 [some (.ref a0), some (.int a1), some (.int a2)] ([.int s0]) M = Q (some (.int s0)) M := r_iret (r := []) (by decide +kernel) d85_78
theorem e_A_spare {Q : q_R} {M : q_M} {a0 : Nat} : q_Run 86 [.ref a0] M Q = q_g 86 none Q 0 [some (.ref a0)] [] M := q_entry (Nat.le_of_ble_eq_true rfl) rfl
theorem d86_0 : decode (q_code 86) 0 = .ok (.aload_n 0, 1) := by decide +kernel
theorem gA_spare_0 {Q : q_R} {M : q_M} {r : List Value} {a0 : Nat} : q_g 86 none Q 0 [some (.ref a0)] (r) M = q_g 86 none Q 1 [some (.ref a0)] (.ref a0 :: r) M := r_aload_n rfl d86_0
theorem d86_1 : decode (q_code 86) 1 = .ok (.getfield 10, 3) := by decide +kernel
theorem gA_spare_1 {Q : q_R} {M : q_M} {r : List Value} {a0 : Nat} {s0 : Nat} : q_g 86 none Q 1 [some (.ref a0)] (.ref s0 :: r) M = (q_isC 3 s0 = true ∧ q_g 86 none Q 4 [some (.ref a0)] (.ref (q_rf s0 0) :: r) M) := r_getR (by decide +kernel) (by decide +kernel) d86_1
theorem d86_4 : decode (q_code 86) 4 = .ok (.invokestatic 168, 3) := by decide +kernel
theorem gA_spare_4 {Q : q_R} {M : q_M} {a0 : Nat} {s0 : Nat} : q_g 86 none Q 4 [some (.ref a0)] ([.ref s0]) M = q_Run 44 [.ref s0] M (fun v M' => q_g 86 none Q 7 [some (.ref a0)] (v.toList ++ []) M') := r_call_static (k := 1) (by decide +kernel) (by decide +kernel) (by decide +kernel) (Nat.le_of_ble_eq_true rfl) (Nat.le_of_ble_eq_true rfl) rfl rfl d86_4
theorem d86_7 : decode (q_code 86) 7 = .ok (.ireturn, 1) := by decide +kernel
theorem gA_spare_7 {Q : q_R} {M : q_M} {a0 : Nat} {s0 : Int32} : q_g 86 none Q 7 [some (.ref a0)] ([.int s0]) M = Q (some (.int s0)) M := r_iret (r := []) (by decide +kernel) d86_7
theorem e_A_surely {Q : q_R} {M : q_M} {a0 : Nat} {a1 : Int32} : q_Run 87 [.ref a0, .int a1] M Q = q_g 87 none Q 0 [some (.ref a0), some (.int a1)] [] M := q_entry (Nat.le_of_ble_eq_true rfl) rfl
theorem d87_0 : decode (q_code 87) 0 = .ok (.iload_n 1, 1) := by decide +kernel
theorem gA_surely_0 {Q : q_R} {M : q_M} {r : List Value} {a0 : Nat} {a1 : Int32} : q_g 87 none Q 0 [some (.ref a0), some (.int a1)] (r) M = q_g 87 none Q 1 [some (.ref a0), some (.int a1)] (.int a1 :: r) M := r_iload_n rfl d87_0
theorem d87_1 : decode (q_code 87) 1 = .ok (.invokestatic 88, 3) := by decide +kernel
theorem gA_surely_1 {Q : q_R} {M : q_M} {a0 : Nat} {a1 : Int32} {s0 : Int32} : q_g 87 none Q 1 [some (.ref a0), some (.int a1)] ([.int s0]) M = q_Run 66 [.int s0] M (fun v M' => q_g 87 none Q 4 [some (.ref a0), some (.int a1)] (v.toList ++ []) M') := r_call_static (k := 1) (by decide +kernel) (by decide +kernel) (by decide +kernel) (Nat.le_of_ble_eq_true rfl) (Nat.le_of_ble_eq_true rfl) rfl rfl d87_1
theorem d87_4 : decode (q_code 87) 4 = .ok (.ifCond .eq 10, 3) := by decide +kernel
theorem gA_surely_4 {Q : q_R} {M : q_M} {r : List Value} {a0 : Nat} {a1 : Int32} {s0 : Int32} : q_g 87 none Q 4 [some (.ref a0), some (.int a1)] (.int s0 :: r) M = (if s0 = 0 then q_g 87 none Q 14 [some (.ref a0), some (.int a1)] (r) M else q_g 87 none Q 7 [some (.ref a0), some (.int a1)] (r) M) := r_if_eq (by decide) (by decide) d87_4
theorem d87_7 : decode (q_code 87) 7 = .ok (.aload_n 0, 1) := by decide +kernel
theorem gA_surely_7 {Q : q_R} {M : q_M} {r : List Value} {a0 : Nat} {a1 : Int32} : q_g 87 none Q 7 [some (.ref a0), some (.int a1)] (r) M = q_g 87 none Q 8 [some (.ref a0), some (.int a1)] (.ref a0 :: r) M := r_aload_n rfl d87_7
theorem d87_8 : decode (q_code 87) 8 = .ok (.bipush (-2), 2) := by decide +kernel
theorem gA_surely_8 {Q : q_R} {M : q_M} {r : List Value} {a0 : Nat} {a1 : Int32} : q_g 87 none Q 8 [some (.ref a0), some (.int a1)] (r) M = q_g 87 none Q 10 [some (.ref a0), some (.int a1)] (.int (-2) :: r) M := r_bipush (by decide) d87_8
theorem d87_10 : decode (q_code 87) 10 = .ok (.invokevirtual 138, 3) := by decide +kernel
theorem gA_surely_10 {Q : q_R} {M : q_M} {a0 : Nat} {a1 : Int32} {s0 : Int32} {s1 : Nat} : q_g 87 none Q 10 [some (.ref a0), some (.int a1)] ([.int s0, .ref s1]) M = (q_isC 3 s1 = true ∧ q_Run 80 [.ref s1, .int s0] M (fun v M' => q_g 87 none Q 13 [some (.ref a0), some (.int a1)] (v.toList ++ []) M')) := r_call_virtual (k := 2) (by decide +kernel) (by decide +kernel) (Nat.le_of_ble_eq_true rfl) (Nat.le_of_ble_eq_true rfl) rfl rfl d87_10
theorem d87_13 : decode (q_code 87) 13 = .ok (.lreturn, 1) := by decide +kernel
theorem gA_surely_13 {Q : q_R} {M : q_M} {a0 : Nat} {a1 : Int32} {s0 : Int64} : q_g 87 none Q 13 [some (.ref a0), some (.int a1)] ([.long s0]) M = Q (some (.long s0)) M := r_lret (r := []) (by decide +kernel) d87_13
theorem d87_14 : decode (q_code 87) 14 = .ok (.aload_n 0, 1) := by decide +kernel
theorem gA_surely_14 {Q : q_R} {M : q_M} {r : List Value} {a0 : Nat} {a1 : Int32} : q_g 87 none Q 14 [some (.ref a0), some (.int a1)] (r) M = q_g 87 none Q 15 [some (.ref a0), some (.int a1)] (.ref a0 :: r) M := r_aload_n rfl d87_14
theorem d87_15 : decode (q_code 87) 15 = .ok (.getfield 10, 3) := by decide +kernel
theorem gA_surely_15 {Q : q_R} {M : q_M} {r : List Value} {a0 : Nat} {a1 : Int32} {s0 : Nat} : q_g 87 none Q 15 [some (.ref a0), some (.int a1)] (.ref s0 :: r) M = (q_isC 3 s0 = true ∧ q_g 87 none Q 18 [some (.ref a0), some (.int a1)] (.ref (q_rf s0 0) :: r) M) := r_getR (by decide +kernel) (by decide +kernel) d87_15
theorem d87_18 : decode (q_code 87) 18 = .ok (.aload_n 0, 1) := by decide +kernel
theorem gA_surely_18 {Q : q_R} {M : q_M} {r : List Value} {a0 : Nat} {a1 : Int32} : q_g 87 none Q 18 [some (.ref a0), some (.int a1)] (r) M = q_g 87 none Q 19 [some (.ref a0), some (.int a1)] (.ref a0 :: r) M := r_aload_n rfl d87_18
theorem d87_19 : decode (q_code 87) 19 = .ok (.getfield 10, 3) := by decide +kernel
theorem gA_surely_19 {Q : q_R} {M : q_M} {r : List Value} {a0 : Nat} {a1 : Int32} {s0 : Nat} : q_g 87 none Q 19 [some (.ref a0), some (.int a1)] (.ref s0 :: r) M = (q_isC 3 s0 = true ∧ q_g 87 none Q 22 [some (.ref a0), some (.int a1)] (.ref (q_rf s0 0) :: r) M) := r_getR (by decide +kernel) (by decide +kernel) d87_19
theorem d87_22 : decode (q_code 87) 22 = .ok (.aload_n 0, 1) := by decide +kernel
theorem gA_surely_22 {Q : q_R} {M : q_M} {r : List Value} {a0 : Nat} {a1 : Int32} : q_g 87 none Q 22 [some (.ref a0), some (.int a1)] (r) M = q_g 87 none Q 23 [some (.ref a0), some (.int a1)] (.ref a0 :: r) M := r_aload_n rfl d87_22
theorem d87_23 : decode (q_code 87) 23 = .ok (.getfield 10, 3) := by decide +kernel
theorem gA_surely_23 {Q : q_R} {M : q_M} {r : List Value} {a0 : Nat} {a1 : Int32} {s0 : Nat} : q_g 87 none Q 23 [some (.ref a0), some (.int a1)] (.ref s0 :: r) M = (q_isC 3 s0 = true ∧ q_g 87 none Q 26 [some (.ref a0), some (.int a1)] (.ref (q_rf s0 0) :: r) M) := r_getR (by decide +kernel) (by decide +kernel) d87_23
theorem d87_26 : decode (q_code 87) 26 = .ok (.getfield 100, 3) := by decide +kernel
theorem gA_surely_26 {Q : q_R} {M : q_M} {r : List Value} {a0 : Nat} {a1 : Int32} {s0 : Nat} : q_g 87 none Q 26 [some (.ref a0), some (.int a1)] (.ref s0 :: r) M = (q_isC 0 s0 = true ∧ q_g 87 none Q 29 [some (.ref a0), some (.int a1)] (.int (M s0 7) :: r) M) := r_getI (by decide +kernel) (by decide +kernel) d87_26
theorem d87_29 : decode (q_code 87) 29 = .ok (.invokevirtual 122, 3) := by decide +kernel
theorem gA_surely_29 {Q : q_R} {M : q_M} {a0 : Nat} {a1 : Int32} {s0 : Int32} {s1 : Nat} {s2 : Nat} : q_g 87 none Q 29 [some (.ref a0), some (.int a1)] ([.int s0, .ref s1, .ref s2]) M = (q_isC 0 s1 = true ∧ q_Run 14 [.ref s1, .int s0] M (fun v M' => q_g 87 none Q 32 [some (.ref a0), some (.int a1)] (v.toList ++ [.ref s2]) M')) := r_call_virtual (k := 2) (by decide +kernel) (by decide +kernel) (Nat.le_of_ble_eq_true rfl) (Nat.le_of_ble_eq_true rfl) rfl rfl d87_29
theorem d87_32 : decode (q_code 87) 32 = .ok (.aload_n 0, 1) := by decide +kernel
theorem gA_surely_32 {Q : q_R} {M : q_M} {r : List Value} {a0 : Nat} {a1 : Int32} : q_g 87 none Q 32 [some (.ref a0), some (.int a1)] (r) M = q_g 87 none Q 33 [some (.ref a0), some (.int a1)] (.ref a0 :: r) M := r_aload_n rfl d87_32
theorem d87_33 : decode (q_code 87) 33 = .ok (.getfield 10, 3) := by decide +kernel
theorem gA_surely_33 {Q : q_R} {M : q_M} {r : List Value} {a0 : Nat} {a1 : Int32} {s0 : Nat} : q_g 87 none Q 33 [some (.ref a0), some (.int a1)] (.ref s0 :: r) M = (q_isC 3 s0 = true ∧ q_g 87 none Q 36 [some (.ref a0), some (.int a1)] (.ref (q_rf s0 0) :: r) M) := r_getR (by decide +kernel) (by decide +kernel) d87_33
theorem d87_36 : decode (q_code 87) 36 = .ok (.getfield 100, 3) := by decide +kernel
theorem gA_surely_36 {Q : q_R} {M : q_M} {r : List Value} {a0 : Nat} {a1 : Int32} {s0 : Nat} : q_g 87 none Q 36 [some (.ref a0), some (.int a1)] (.ref s0 :: r) M = (q_isC 0 s0 = true ∧ q_g 87 none Q 39 [some (.ref a0), some (.int a1)] (.int (M s0 7) :: r) M) := r_getI (by decide +kernel) (by decide +kernel) d87_36
theorem d87_39 : decode (q_code 87) 39 = .ok (.iconst (-1), 1) := by decide +kernel
theorem gA_surely_39 {Q : q_R} {M : q_M} {r : List Value} {a0 : Nat} {a1 : Int32} : q_g 87 none Q 39 [some (.ref a0), some (.int a1)] (r) M = q_g 87 none Q 40 [some (.ref a0), some (.int a1)] (.int (-1) :: r) M := r_iconst (by decide) d87_39
theorem d87_40 : decode (q_code 87) 40 = .ok (.ixor, 1) := by decide +kernel
theorem gA_surely_40 {Q : q_R} {M : q_M} {r : List Value} {a0 : Nat} {a1 : Int32} {s0 : Int32} {s1 : Int32} : q_g 87 none Q 40 [some (.ref a0), some (.int a1)] (.int s0 :: .int s1 :: r) M = q_g 87 none Q 41 [some (.ref a0), some (.int a1)] (.int (s1 ^^^ s0) :: r) M := r_ixor d87_40
theorem d87_41 : decode (q_code 87) 41 = .ok (.iand, 1) := by decide +kernel
theorem gA_surely_41 {Q : q_R} {M : q_M} {r : List Value} {a0 : Nat} {a1 : Int32} {s0 : Int32} {s1 : Int32} : q_g 87 none Q 41 [some (.ref a0), some (.int a1)] (.int s0 :: .int s1 :: r) M = q_g 87 none Q 42 [some (.ref a0), some (.int a1)] (.int (s1 &&& s0) :: r) M := r_iand d87_41
theorem d87_42 : decode (q_code 87) 42 = .ok (.iload_n 1, 1) := by decide +kernel
theorem gA_surely_42 {Q : q_R} {M : q_M} {r : List Value} {a0 : Nat} {a1 : Int32} : q_g 87 none Q 42 [some (.ref a0), some (.int a1)] (r) M = q_g 87 none Q 43 [some (.ref a0), some (.int a1)] (.int a1 :: r) M := r_iload_n rfl d87_42
theorem d87_43 : decode (q_code 87) 43 = .ok (.invokevirtual 150, 3) := by decide +kernel
theorem gA_surely_43 {Q : q_R} {M : q_M} {a0 : Nat} {a1 : Int32} {s0 : Int32} {s1 : Int32} {s2 : Nat} : q_g 87 none Q 43 [some (.ref a0), some (.int a1)] ([.int s0, .int s1, .ref s2]) M = (q_isC 0 s2 = true ∧ q_Run 6 [.ref s2, .int s1, .int s0] M (fun v M' => q_g 87 none Q 46 [some (.ref a0), some (.int a1)] (v.toList ++ []) M')) := r_call_virtual (k := 3) (by decide +kernel) (by decide +kernel) (Nat.le_of_ble_eq_true rfl) (Nat.le_of_ble_eq_true rfl) rfl rfl d87_43
theorem d87_46 : decode (q_code 87) 46 = .ok (.lreturn, 1) := by decide +kernel
theorem gA_surely_46 {Q : q_R} {M : q_M} {a0 : Nat} {a1 : Int32} {s0 : Int64} : q_g 87 none Q 46 [some (.ref a0), some (.int a1)] ([.long s0]) M = Q (some (.long s0)) M := r_lret (r := []) (by decide +kernel) d87_46
theorem e_A_take {Q : q_R} {M : q_M} {a0 : Nat} {a1 : Int32} : q_Run 88 [.ref a0, .int a1] M Q = q_g 88 none Q 0 [some (.ref a0), some (.int a1)] [] M := q_entry (Nat.le_of_ble_eq_true rfl) rfl
theorem d88_0 : decode (q_code 88) 0 = .ok (.aload_n 0, 1) := by decide +kernel
theorem gA_take_0 {Q : q_R} {M : q_M} {r : List Value} {a0 : Nat} {a1 : Int32} : q_g 88 none Q 0 [some (.ref a0), some (.int a1)] (r) M = q_g 88 none Q 1 [some (.ref a0), some (.int a1)] (.ref a0 :: r) M := r_aload_n rfl d88_0
theorem d88_1 : decode (q_code 88) 1 = .ok (.getfield 10, 3) := by decide +kernel
theorem gA_take_1 {Q : q_R} {M : q_M} {r : List Value} {a0 : Nat} {a1 : Int32} {s0 : Nat} : q_g 88 none Q 1 [some (.ref a0), some (.int a1)] (.ref s0 :: r) M = (q_isC 3 s0 = true ∧ q_g 88 none Q 4 [some (.ref a0), some (.int a1)] (.ref (q_rf s0 0) :: r) M) := r_getR (by decide +kernel) (by decide +kernel) d88_1
theorem d88_4 : decode (q_code 88) 4 = .ok (.iload_n 1, 1) := by decide +kernel
theorem gA_take_4 {Q : q_R} {M : q_M} {r : List Value} {a0 : Nat} {a1 : Int32} : q_g 88 none Q 4 [some (.ref a0), some (.int a1)] (r) M = q_g 88 none Q 5 [some (.ref a0), some (.int a1)] (.int a1 :: r) M := r_iload_n rfl d88_4
theorem d88_5 : decode (q_code 88) 5 = .ok (.invokevirtual 80, 3) := by decide +kernel
theorem gA_take_5 {Q : q_R} {M : q_M} {a0 : Nat} {a1 : Int32} {s0 : Int32} {s1 : Nat} : q_g 88 none Q 5 [some (.ref a0), some (.int a1)] ([.int s0, .ref s1]) M = (q_isC 0 s1 = true ∧ q_Run 11 [.ref s1, .int s0] M (fun v M' => q_g 88 none Q 8 [some (.ref a0), some (.int a1)] (v.toList ++ []) M')) := r_call_virtual (k := 2) (by decide +kernel) (by decide +kernel) (Nat.le_of_ble_eq_true rfl) (Nat.le_of_ble_eq_true rfl) rfl rfl d88_5
theorem d88_8 : decode (q_code 88) 8 = .ok (.ifCond .ne 9, 3) := by decide +kernel
theorem gA_take_8 {Q : q_R} {M : q_M} {r : List Value} {a0 : Nat} {a1 : Int32} {s0 : Int32} : q_g 88 none Q 8 [some (.ref a0), some (.int a1)] (.int s0 :: r) M = (if ¬ s0 = 0 then q_g 88 none Q 17 [some (.ref a0), some (.int a1)] (r) M else q_g 88 none Q 11 [some (.ref a0), some (.int a1)] (r) M) := r_if_ne (by decide) (by decide) d88_8
theorem d88_11 : decode (q_code 88) 11 = .ok (.aload_n 0, 1) := by decide +kernel
theorem gA_take_11 {Q : q_R} {M : q_M} {r : List Value} {a0 : Nat} {a1 : Int32} : q_g 88 none Q 11 [some (.ref a0), some (.int a1)] (r) M = q_g 88 none Q 12 [some (.ref a0), some (.int a1)] (.ref a0 :: r) M := r_aload_n rfl d88_11
theorem d88_12 : decode (q_code 88) 12 = .ok (.iconst (-1), 1) := by decide +kernel
theorem gA_take_12 {Q : q_R} {M : q_M} {r : List Value} {a0 : Nat} {a1 : Int32} : q_g 88 none Q 12 [some (.ref a0), some (.int a1)] (r) M = q_g 88 none Q 13 [some (.ref a0), some (.int a1)] (.int (-1) :: r) M := r_iconst (by decide) d88_12
theorem d88_13 : decode (q_code 88) 13 = .ok (.invokevirtual 51, 3) := by decide +kernel
theorem gA_take_13 {Q : q_R} {M : q_M} {a0 : Nat} {a1 : Int32} {s0 : Int32} {s1 : Nat} : q_g 88 none Q 13 [some (.ref a0), some (.int a1)] ([.int s0, .ref s1]) M = (q_isC 3 s1 = true ∧ q_Run 79 [.ref s1, .int s0] M (fun v M' => q_g 88 none Q 16 [some (.ref a0), some (.int a1)] (v.toList ++ []) M')) := r_call_virtual (k := 2) (by decide +kernel) (by decide +kernel) (Nat.le_of_ble_eq_true rfl) (Nat.le_of_ble_eq_true rfl) rfl rfl d88_13
theorem d88_16 : decode (q_code 88) 16 = .ok (.ireturn, 1) := by decide +kernel
theorem gA_take_16 {Q : q_R} {M : q_M} {a0 : Nat} {a1 : Int32} {s0 : Int32} : q_g 88 none Q 16 [some (.ref a0), some (.int a1)] ([.int s0]) M = Q (some (.int s0)) M := r_iret (r := []) (by decide +kernel) d88_16
theorem d88_17 : decode (q_code 88) 17 = .ok (.aload_n 0, 1) := by decide +kernel
theorem gA_take_17 {Q : q_R} {M : q_M} {r : List Value} {a0 : Nat} {a1 : Int32} : q_g 88 none Q 17 [some (.ref a0), some (.int a1)] (r) M = q_g 88 none Q 18 [some (.ref a0), some (.int a1)] (.ref a0 :: r) M := r_aload_n rfl d88_17
theorem d88_18 : decode (q_code 88) 18 = .ok (.getfield 10, 3) := by decide +kernel
theorem gA_take_18 {Q : q_R} {M : q_M} {r : List Value} {a0 : Nat} {a1 : Int32} {s0 : Nat} : q_g 88 none Q 18 [some (.ref a0), some (.int a1)] (.ref s0 :: r) M = (q_isC 3 s0 = true ∧ q_g 88 none Q 21 [some (.ref a0), some (.int a1)] (.ref (q_rf s0 0) :: r) M) := r_getR (by decide +kernel) (by decide +kernel) d88_18
theorem d88_21 : decode (q_code 88) 21 = .ok (.iload_n 1, 1) := by decide +kernel
theorem gA_take_21 {Q : q_R} {M : q_M} {r : List Value} {a0 : Nat} {a1 : Int32} : q_g 88 none Q 21 [some (.ref a0), some (.int a1)] (r) M = q_g 88 none Q 22 [some (.ref a0), some (.int a1)] (.int a1 :: r) M := r_iload_n rfl d88_21
theorem d88_22 : decode (q_code 88) 22 = .ok (.aload_n 0, 1) := by decide +kernel
theorem gA_take_22 {Q : q_R} {M : q_M} {r : List Value} {a0 : Nat} {a1 : Int32} : q_g 88 none Q 22 [some (.ref a0), some (.int a1)] (r) M = q_g 88 none Q 23 [some (.ref a0), some (.int a1)] (.ref a0 :: r) M := r_aload_n rfl d88_22
theorem d88_23 : decode (q_code 88) 23 = .ok (.getfield 10, 3) := by decide +kernel
theorem gA_take_23 {Q : q_R} {M : q_M} {r : List Value} {a0 : Nat} {a1 : Int32} {s0 : Nat} : q_g 88 none Q 23 [some (.ref a0), some (.int a1)] (.ref s0 :: r) M = (q_isC 3 s0 = true ∧ q_g 88 none Q 26 [some (.ref a0), some (.int a1)] (.ref (q_rf s0 0) :: r) M) := r_getR (by decide +kernel) (by decide +kernel) d88_23
theorem d88_26 : decode (q_code 88) 26 = .ok (.getfield 100, 3) := by decide +kernel
theorem gA_take_26 {Q : q_R} {M : q_M} {r : List Value} {a0 : Nat} {a1 : Int32} {s0 : Nat} : q_g 88 none Q 26 [some (.ref a0), some (.int a1)] (.ref s0 :: r) M = (q_isC 0 s0 = true ∧ q_g 88 none Q 29 [some (.ref a0), some (.int a1)] (.int (M s0 7) :: r) M) := r_getI (by decide +kernel) (by decide +kernel) d88_26
theorem d88_29 : decode (q_code 88) 29 = .ok (.invokevirtual 103, 3) := by decide +kernel
theorem gA_take_29 {Q : q_R} {M : q_M} {a0 : Nat} {a1 : Int32} {s0 : Int32} {s1 : Int32} {s2 : Nat} : q_g 88 none Q 29 [some (.ref a0), some (.int a1)] ([.int s0, .int s1, .ref s2]) M = (q_isC 0 s2 = true ∧ q_Run 5 [.ref s2, .int s1, .int s0] M (fun v M' => q_g 88 none Q 32 [some (.ref a0), some (.int a1)] (v.toList ++ []) M')) := r_call_virtual (k := 3) (by decide +kernel) (by decide +kernel) (Nat.le_of_ble_eq_true rfl) (Nat.le_of_ble_eq_true rfl) rfl rfl d88_29
theorem d88_32 : decode (q_code 88) 32 = .ok (.ifCond .ne 10, 3) := by decide +kernel
theorem gA_take_32 {Q : q_R} {M : q_M} {r : List Value} {a0 : Nat} {a1 : Int32} {s0 : Int32} : q_g 88 none Q 32 [some (.ref a0), some (.int a1)] (.int s0 :: r) M = (if ¬ s0 = 0 then q_g 88 none Q 42 [some (.ref a0), some (.int a1)] (r) M else q_g 88 none Q 35 [some (.ref a0), some (.int a1)] (r) M) := r_if_ne (by decide) (by decide) d88_32
theorem d88_35 : decode (q_code 88) 35 = .ok (.aload_n 0, 1) := by decide +kernel
theorem gA_take_35 {Q : q_R} {M : q_M} {r : List Value} {a0 : Nat} {a1 : Int32} : q_g 88 none Q 35 [some (.ref a0), some (.int a1)] (r) M = q_g 88 none Q 36 [some (.ref a0), some (.int a1)] (.ref a0 :: r) M := r_aload_n rfl d88_35
theorem d88_36 : decode (q_code 88) 36 = .ok (.bipush (-3), 2) := by decide +kernel
theorem gA_take_36 {Q : q_R} {M : q_M} {r : List Value} {a0 : Nat} {a1 : Int32} : q_g 88 none Q 36 [some (.ref a0), some (.int a1)] (r) M = q_g 88 none Q 38 [some (.ref a0), some (.int a1)] (.int (-3) :: r) M := r_bipush (by decide) d88_36
theorem d88_38 : decode (q_code 88) 38 = .ok (.invokevirtual 51, 3) := by decide +kernel
theorem gA_take_38 {Q : q_R} {M : q_M} {a0 : Nat} {a1 : Int32} {s0 : Int32} {s1 : Nat} : q_g 88 none Q 38 [some (.ref a0), some (.int a1)] ([.int s0, .ref s1]) M = (q_isC 3 s1 = true ∧ q_Run 79 [.ref s1, .int s0] M (fun v M' => q_g 88 none Q 41 [some (.ref a0), some (.int a1)] (v.toList ++ []) M')) := r_call_virtual (k := 2) (by decide +kernel) (by decide +kernel) (Nat.le_of_ble_eq_true rfl) (Nat.le_of_ble_eq_true rfl) rfl rfl d88_38
theorem d88_41 : decode (q_code 88) 41 = .ok (.ireturn, 1) := by decide +kernel
theorem gA_take_41 {Q : q_R} {M : q_M} {a0 : Nat} {a1 : Int32} {s0 : Int32} : q_g 88 none Q 41 [some (.ref a0), some (.int a1)] ([.int s0]) M = Q (some (.int s0)) M := r_iret (r := []) (by decide +kernel) d88_41
theorem d88_42 : decode (q_code 88) 42 = .ok (.aload_n 0, 1) := by decide +kernel
theorem gA_take_42 {Q : q_R} {M : q_M} {r : List Value} {a0 : Nat} {a1 : Int32} : q_g 88 none Q 42 [some (.ref a0), some (.int a1)] (r) M = q_g 88 none Q 43 [some (.ref a0), some (.int a1)] (.ref a0 :: r) M := r_aload_n rfl d88_42
theorem d88_43 : decode (q_code 88) 43 = .ok (.getfield 10, 3) := by decide +kernel
theorem gA_take_43 {Q : q_R} {M : q_M} {r : List Value} {a0 : Nat} {a1 : Int32} {s0 : Nat} : q_g 88 none Q 43 [some (.ref a0), some (.int a1)] (.ref s0 :: r) M = (q_isC 3 s0 = true ∧ q_g 88 none Q 46 [some (.ref a0), some (.int a1)] (.ref (q_rf s0 0) :: r) M) := r_getR (by decide +kernel) (by decide +kernel) d88_43
theorem d88_46 : decode (q_code 88) 46 = .ok (.getfield 107, 3) := by decide +kernel
theorem gA_take_46 {Q : q_R} {M : q_M} {r : List Value} {a0 : Nat} {a1 : Int32} {s0 : Nat} : q_g 88 none Q 46 [some (.ref a0), some (.int a1)] (.ref s0 :: r) M = (q_isC 0 s0 = true ∧ q_g 88 none Q 49 [some (.ref a0), some (.int a1)] (.int (M s0 8) :: r) M) := r_getI (by decide +kernel) (by decide +kernel) d88_46
theorem d88_49 : decode (q_code 88) 49 = .ok (.aload_n 0, 1) := by decide +kernel
theorem gA_take_49 {Q : q_R} {M : q_M} {r : List Value} {a0 : Nat} {a1 : Int32} : q_g 88 none Q 49 [some (.ref a0), some (.int a1)] (r) M = q_g 88 none Q 50 [some (.ref a0), some (.int a1)] (.ref a0 :: r) M := r_aload_n rfl d88_49
theorem d88_50 : decode (q_code 88) 50 = .ok (.getfield 10, 3) := by decide +kernel
theorem gA_take_50 {Q : q_R} {M : q_M} {r : List Value} {a0 : Nat} {a1 : Int32} {s0 : Nat} : q_g 88 none Q 50 [some (.ref a0), some (.int a1)] (.ref s0 :: r) M = (q_isC 3 s0 = true ∧ q_g 88 none Q 53 [some (.ref a0), some (.int a1)] (.ref (q_rf s0 0) :: r) M) := r_getR (by decide +kernel) (by decide +kernel) d88_50
theorem d88_53 : decode (q_code 88) 53 = .ok (.iload_n 1, 1) := by decide +kernel
theorem gA_take_53 {Q : q_R} {M : q_M} {r : List Value} {a0 : Nat} {a1 : Int32} : q_g 88 none Q 53 [some (.ref a0), some (.int a1)] (r) M = q_g 88 none Q 54 [some (.ref a0), some (.int a1)] (.int a1 :: r) M := r_iload_n rfl d88_53
theorem d88_54 : decode (q_code 88) 54 = .ok (.aload_n 0, 1) := by decide +kernel
theorem gA_take_54 {Q : q_R} {M : q_M} {r : List Value} {a0 : Nat} {a1 : Int32} : q_g 88 none Q 54 [some (.ref a0), some (.int a1)] (r) M = q_g 88 none Q 55 [some (.ref a0), some (.int a1)] (.ref a0 :: r) M := r_aload_n rfl d88_54
theorem d88_55 : decode (q_code 88) 55 = .ok (.getfield 10, 3) := by decide +kernel
theorem gA_take_55 {Q : q_R} {M : q_M} {r : List Value} {a0 : Nat} {a1 : Int32} {s0 : Nat} : q_g 88 none Q 55 [some (.ref a0), some (.int a1)] (.ref s0 :: r) M = (q_isC 3 s0 = true ∧ q_g 88 none Q 58 [some (.ref a0), some (.int a1)] (.ref (q_rf s0 0) :: r) M) := r_getR (by decide +kernel) (by decide +kernel) d88_55
theorem d88_58 : decode (q_code 88) 58 = .ok (.getfield 100, 3) := by decide +kernel
theorem gA_take_58 {Q : q_R} {M : q_M} {r : List Value} {a0 : Nat} {a1 : Int32} {s0 : Nat} : q_g 88 none Q 58 [some (.ref a0), some (.int a1)] (.ref s0 :: r) M = (q_isC 0 s0 = true ∧ q_g 88 none Q 61 [some (.ref a0), some (.int a1)] (.int (M s0 7) :: r) M) := r_getI (by decide +kernel) (by decide +kernel) d88_58
theorem d88_61 : decode (q_code 88) 61 = .ok (.invokevirtual 110, 3) := by decide +kernel
theorem gA_take_61 {Q : q_R} {M : q_M} {a0 : Nat} {a1 : Int32} {s0 : Int32} {s1 : Int32} {s2 : Nat} {s3 : Int32} : q_g 88 none Q 61 [some (.ref a0), some (.int a1)] ([.int s0, .int s1, .ref s2, .int s3]) M = (q_isC 0 s2 = true ∧ q_Run 13 [.ref s2, .int s1, .int s0] M (fun v M' => q_g 88 none Q 64 [some (.ref a0), some (.int a1)] (v.toList ++ [.int s3]) M')) := r_call_virtual (k := 3) (by decide +kernel) (by decide +kernel) (Nat.le_of_ble_eq_true rfl) (Nat.le_of_ble_eq_true rfl) rfl rfl d88_61
theorem d88_64 : decode (q_code 88) 64 = .ok (.iadd, 1) := by decide +kernel
theorem gA_take_64 {Q : q_R} {M : q_M} {r : List Value} {a0 : Nat} {a1 : Int32} {s0 : Int32} {s1 : Int32} : q_g 88 none Q 64 [some (.ref a0), some (.int a1)] (.int s0 :: .int s1 :: r) M = q_g 88 none Q 65 [some (.ref a0), some (.int a1)] (.int (s1 + s0) :: r) M := r_iadd d88_64
theorem d88_65 : decode (q_code 88) 65 = .ok (.sipush 9999, 3) := by decide +kernel
theorem gA_take_65 {Q : q_R} {M : q_M} {r : List Value} {a0 : Nat} {a1 : Int32} : q_g 88 none Q 65 [some (.ref a0), some (.int a1)] (r) M = q_g 88 none Q 68 [some (.ref a0), some (.int a1)] (.int 9999 :: r) M := r_sipush (by decide) d88_65
theorem d88_68 : decode (q_code 88) 68 = .ok (.if_icmp .le 10, 3) := by decide +kernel
theorem gA_take_68 {Q : q_R} {M : q_M} {r : List Value} {a0 : Nat} {a1 : Int32} {s0 : Int32} {s1 : Int32} : q_g 88 none Q 68 [some (.ref a0), some (.int a1)] (.int s0 :: .int s1 :: r) M = (if s1 ≤ s0 then q_g 88 none Q 78 [some (.ref a0), some (.int a1)] (r) M else q_g 88 none Q 71 [some (.ref a0), some (.int a1)] (r) M) := r_icmp_le (by decide) (by decide) d88_68
theorem d88_71 : decode (q_code 88) 71 = .ok (.aload_n 0, 1) := by decide +kernel
theorem gA_take_71 {Q : q_R} {M : q_M} {r : List Value} {a0 : Nat} {a1 : Int32} : q_g 88 none Q 71 [some (.ref a0), some (.int a1)] (r) M = q_g 88 none Q 72 [some (.ref a0), some (.int a1)] (.ref a0 :: r) M := r_aload_n rfl d88_71
theorem d88_72 : decode (q_code 88) 72 = .ok (.bipush (-6), 2) := by decide +kernel
theorem gA_take_72 {Q : q_R} {M : q_M} {r : List Value} {a0 : Nat} {a1 : Int32} : q_g 88 none Q 72 [some (.ref a0), some (.int a1)] (r) M = q_g 88 none Q 74 [some (.ref a0), some (.int a1)] (.int (-6) :: r) M := r_bipush (by decide) d88_72
theorem d88_74 : decode (q_code 88) 74 = .ok (.invokevirtual 51, 3) := by decide +kernel
theorem gA_take_74 {Q : q_R} {M : q_M} {a0 : Nat} {a1 : Int32} {s0 : Int32} {s1 : Nat} : q_g 88 none Q 74 [some (.ref a0), some (.int a1)] ([.int s0, .ref s1]) M = (q_isC 3 s1 = true ∧ q_Run 79 [.ref s1, .int s0] M (fun v M' => q_g 88 none Q 77 [some (.ref a0), some (.int a1)] (v.toList ++ []) M')) := r_call_virtual (k := 2) (by decide +kernel) (by decide +kernel) (Nat.le_of_ble_eq_true rfl) (Nat.le_of_ble_eq_true rfl) rfl rfl d88_74
theorem d88_77 : decode (q_code 88) 77 = .ok (.ireturn, 1) := by decide +kernel
theorem gA_take_77 {Q : q_R} {M : q_M} {a0 : Nat} {a1 : Int32} {s0 : Int32} : q_g 88 none Q 77 [some (.ref a0), some (.int a1)] ([.int s0]) M = Q (some (.int s0)) M := r_iret (r := []) (by decide +kernel) d88_77
theorem d88_78 : decode (q_code 88) 78 = .ok (.aload_n 0, 1) := by decide +kernel
theorem gA_take_78 {Q : q_R} {M : q_M} {r : List Value} {a0 : Nat} {a1 : Int32} : q_g 88 none Q 78 [some (.ref a0), some (.int a1)] (r) M = q_g 88 none Q 79 [some (.ref a0), some (.int a1)] (.ref a0 :: r) M := r_aload_n rfl d88_78
theorem d88_79 : decode (q_code 88) 79 = .ok (.getfield 10, 3) := by decide +kernel
theorem gA_take_79 {Q : q_R} {M : q_M} {r : List Value} {a0 : Nat} {a1 : Int32} {s0 : Nat} : q_g 88 none Q 79 [some (.ref a0), some (.int a1)] (.ref s0 :: r) M = (q_isC 3 s0 = true ∧ q_g 88 none Q 82 [some (.ref a0), some (.int a1)] (.ref (q_rf s0 0) :: r) M) := r_getR (by decide +kernel) (by decide +kernel) d88_79
theorem d88_82 : decode (q_code 88) 82 = .ok (.iload_n 1, 1) := by decide +kernel
theorem gA_take_82 {Q : q_R} {M : q_M} {r : List Value} {a0 : Nat} {a1 : Int32} : q_g 88 none Q 82 [some (.ref a0), some (.int a1)] (r) M = q_g 88 none Q 83 [some (.ref a0), some (.int a1)] (.int a1 :: r) M := r_iload_n rfl d88_82
theorem d88_83 : decode (q_code 88) 83 = .ok (.invokevirtual 113, 3) := by decide +kernel
theorem gA_take_83 {Q : q_R} {M : q_M} {a0 : Nat} {a1 : Int32} {s0 : Int32} {s1 : Nat} : q_g 88 none Q 83 [some (.ref a0), some (.int a1)] ([.int s0, .ref s1]) M = (q_isC 0 s1 = true ∧ q_Run 16 [.ref s1, .int s0] M (fun v M' => q_g 88 none Q 86 [some (.ref a0), some (.int a1)] (v.toList ++ []) M')) := r_call_virtual (k := 2) (by decide +kernel) (by decide +kernel) (Nat.le_of_ble_eq_true rfl) (Nat.le_of_ble_eq_true rfl) rfl rfl d88_83
theorem d88_86 : decode (q_code 88) 86 = .ok (.ireturn, 1) := by decide +kernel
theorem gA_take_86 {Q : q_R} {M : q_M} {a0 : Nat} {a1 : Int32} {s0 : Int32} : q_g 88 none Q 86 [some (.ref a0), some (.int a1)] ([.int s0]) M = Q (some (.int s0)) M := r_iret (r := []) (by decide +kernel) d88_86
theorem e_A_thing {Q : q_R} {M : q_M} {a0 : Nat} {a1 : Int32} {a2 : Int32} : q_Run 89 [.ref a0, .int a1, .int a2] M Q = q_g 89 none Q 0 [some (.ref a0), some (.int a1), some (.int a2)] [] M := q_entry (Nat.le_of_ble_eq_true rfl) rfl
theorem d89_0 : decode (q_code 89) 0 = .ok (.aload_n 0, 1) := by decide +kernel
theorem gA_thing_0 {Q : q_R} {M : q_M} {r : List Value} {a0 : Nat} {a1 : Int32} {a2 : Int32} : q_g 89 none Q 0 [some (.ref a0), some (.int a1), some (.int a2)] (r) M = q_g 89 none Q 1 [some (.ref a0), some (.int a1), some (.int a2)] (.ref a0 :: r) M := r_aload_n rfl d89_0
theorem d89_1 : decode (q_code 89) 1 = .ok (.getfield 10, 3) := by decide +kernel
theorem gA_thing_1 {Q : q_R} {M : q_M} {r : List Value} {a0 : Nat} {a1 : Int32} {a2 : Int32} {s0 : Nat} : q_g 89 none Q 1 [some (.ref a0), some (.int a1), some (.int a2)] (.ref s0 :: r) M = (q_isC 3 s0 = true ∧ q_g 89 none Q 4 [some (.ref a0), some (.int a1), some (.int a2)] (.ref (q_rf s0 0) :: r) M) := r_getR (by decide +kernel) (by decide +kernel) d89_1
theorem d89_4 : decode (q_code 89) 4 = .ok (.iload_n 1, 1) := by decide +kernel
theorem gA_thing_4 {Q : q_R} {M : q_M} {r : List Value} {a0 : Nat} {a1 : Int32} {a2 : Int32} : q_g 89 none Q 4 [some (.ref a0), some (.int a1), some (.int a2)] (r) M = q_g 89 none Q 5 [some (.ref a0), some (.int a1), some (.int a2)] (.int a1 :: r) M := r_iload_n rfl d89_4
theorem d89_5 : decode (q_code 89) 5 = .ok (.invokevirtual 80, 3) := by decide +kernel
theorem gA_thing_5 {Q : q_R} {M : q_M} {a0 : Nat} {a1 : Int32} {a2 : Int32} {s0 : Int32} {s1 : Nat} : q_g 89 none Q 5 [some (.ref a0), some (.int a1), some (.int a2)] ([.int s0, .ref s1]) M = (q_isC 0 s1 = true ∧ q_Run 11 [.ref s1, .int s0] M (fun v M' => q_g 89 none Q 8 [some (.ref a0), some (.int a1), some (.int a2)] (v.toList ++ []) M')) := r_call_virtual (k := 2) (by decide +kernel) (by decide +kernel) (Nat.le_of_ble_eq_true rfl) (Nat.le_of_ble_eq_true rfl) rfl rfl d89_5
theorem d89_8 : decode (q_code 89) 8 = .ok (.ifCond .ne 9, 3) := by decide +kernel
theorem gA_thing_8 {Q : q_R} {M : q_M} {r : List Value} {a0 : Nat} {a1 : Int32} {a2 : Int32} {s0 : Int32} : q_g 89 none Q 8 [some (.ref a0), some (.int a1), some (.int a2)] (.int s0 :: r) M = (if ¬ s0 = 0 then q_g 89 none Q 17 [some (.ref a0), some (.int a1), some (.int a2)] (r) M else q_g 89 none Q 11 [some (.ref a0), some (.int a1), some (.int a2)] (r) M) := r_if_ne (by decide) (by decide) d89_8
theorem d89_11 : decode (q_code 89) 11 = .ok (.aload_n 0, 1) := by decide +kernel
theorem gA_thing_11 {Q : q_R} {M : q_M} {r : List Value} {a0 : Nat} {a1 : Int32} {a2 : Int32} : q_g 89 none Q 11 [some (.ref a0), some (.int a1), some (.int a2)] (r) M = q_g 89 none Q 12 [some (.ref a0), some (.int a1), some (.int a2)] (.ref a0 :: r) M := r_aload_n rfl d89_11
theorem d89_12 : decode (q_code 89) 12 = .ok (.iconst (-1), 1) := by decide +kernel
theorem gA_thing_12 {Q : q_R} {M : q_M} {r : List Value} {a0 : Nat} {a1 : Int32} {a2 : Int32} : q_g 89 none Q 12 [some (.ref a0), some (.int a1), some (.int a2)] (r) M = q_g 89 none Q 13 [some (.ref a0), some (.int a1), some (.int a2)] (.int (-1) :: r) M := r_iconst (by decide) d89_12
theorem d89_13 : decode (q_code 89) 13 = .ok (.invokevirtual 51, 3) := by decide +kernel
theorem gA_thing_13 {Q : q_R} {M : q_M} {a0 : Nat} {a1 : Int32} {a2 : Int32} {s0 : Int32} {s1 : Nat} : q_g 89 none Q 13 [some (.ref a0), some (.int a1), some (.int a2)] ([.int s0, .ref s1]) M = (q_isC 3 s1 = true ∧ q_Run 79 [.ref s1, .int s0] M (fun v M' => q_g 89 none Q 16 [some (.ref a0), some (.int a1), some (.int a2)] (v.toList ++ []) M')) := r_call_virtual (k := 2) (by decide +kernel) (by decide +kernel) (Nat.le_of_ble_eq_true rfl) (Nat.le_of_ble_eq_true rfl) rfl rfl d89_13
theorem d89_16 : decode (q_code 89) 16 = .ok (.ireturn, 1) := by decide +kernel
theorem gA_thing_16 {Q : q_R} {M : q_M} {a0 : Nat} {a1 : Int32} {a2 : Int32} {s0 : Int32} : q_g 89 none Q 16 [some (.ref a0), some (.int a1), some (.int a2)] ([.int s0]) M = Q (some (.int s0)) M := r_iret (r := []) (by decide +kernel) d89_16
theorem d89_17 : decode (q_code 89) 17 = .ok (.iload_n 2, 1) := by decide +kernel
theorem gA_thing_17 {Q : q_R} {M : q_M} {r : List Value} {a0 : Nat} {a1 : Int32} {a2 : Int32} : q_g 89 none Q 17 [some (.ref a0), some (.int a1), some (.int a2)] (r) M = q_g 89 none Q 18 [some (.ref a0), some (.int a1), some (.int a2)] (.int a2 :: r) M := r_iload_n rfl d89_17
theorem d89_18 : decode (q_code 89) 18 = .ok (.ifCond .lt 9, 3) := by decide +kernel
theorem gA_thing_18 {Q : q_R} {M : q_M} {r : List Value} {a0 : Nat} {a1 : Int32} {a2 : Int32} {s0 : Int32} : q_g 89 none Q 18 [some (.ref a0), some (.int a1), some (.int a2)] (.int s0 :: r) M = (if s0 < 0 then q_g 89 none Q 27 [some (.ref a0), some (.int a1), some (.int a2)] (r) M else q_g 89 none Q 21 [some (.ref a0), some (.int a1), some (.int a2)] (r) M) := r_if_lt (by decide) (by decide) d89_18
theorem d89_21 : decode (q_code 89) 21 = .ok (.iload_n 2, 1) := by decide +kernel
theorem gA_thing_21 {Q : q_R} {M : q_M} {r : List Value} {a0 : Nat} {a1 : Int32} {a2 : Int32} : q_g 89 none Q 21 [some (.ref a0), some (.int a1), some (.int a2)] (r) M = q_g 89 none Q 22 [some (.ref a0), some (.int a1), some (.int a2)] (.int a2 :: r) M := r_iload_n rfl d89_21
theorem d89_22 : decode (q_code 89) 22 = .ok (.bipush 7, 2) := by decide +kernel
theorem gA_thing_22 {Q : q_R} {M : q_M} {r : List Value} {a0 : Nat} {a1 : Int32} {a2 : Int32} : q_g 89 none Q 22 [some (.ref a0), some (.int a1), some (.int a2)] (r) M = q_g 89 none Q 24 [some (.ref a0), some (.int a1), some (.int a2)] (.int 7 :: r) M := r_bipush (by decide) d89_22
theorem d89_24 : decode (q_code 89) 24 = .ok (.if_icmp .le 10, 3) := by decide +kernel
theorem gA_thing_24 {Q : q_R} {M : q_M} {r : List Value} {a0 : Nat} {a1 : Int32} {a2 : Int32} {s0 : Int32} {s1 : Int32} : q_g 89 none Q 24 [some (.ref a0), some (.int a1), some (.int a2)] (.int s0 :: .int s1 :: r) M = (if s1 ≤ s0 then q_g 89 none Q 34 [some (.ref a0), some (.int a1), some (.int a2)] (r) M else q_g 89 none Q 27 [some (.ref a0), some (.int a1), some (.int a2)] (r) M) := r_icmp_le (by decide) (by decide) d89_24
theorem d89_27 : decode (q_code 89) 27 = .ok (.aload_n 0, 1) := by decide +kernel
theorem gA_thing_27 {Q : q_R} {M : q_M} {r : List Value} {a0 : Nat} {a1 : Int32} {a2 : Int32} : q_g 89 none Q 27 [some (.ref a0), some (.int a1), some (.int a2)] (r) M = q_g 89 none Q 28 [some (.ref a0), some (.int a1), some (.int a2)] (.ref a0 :: r) M := r_aload_n rfl d89_27
theorem d89_28 : decode (q_code 89) 28 = .ok (.bipush (-2), 2) := by decide +kernel
theorem gA_thing_28 {Q : q_R} {M : q_M} {r : List Value} {a0 : Nat} {a1 : Int32} {a2 : Int32} : q_g 89 none Q 28 [some (.ref a0), some (.int a1), some (.int a2)] (r) M = q_g 89 none Q 30 [some (.ref a0), some (.int a1), some (.int a2)] (.int (-2) :: r) M := r_bipush (by decide) d89_28
theorem d89_30 : decode (q_code 89) 30 = .ok (.invokevirtual 51, 3) := by decide +kernel
theorem gA_thing_30 {Q : q_R} {M : q_M} {a0 : Nat} {a1 : Int32} {a2 : Int32} {s0 : Int32} {s1 : Nat} : q_g 89 none Q 30 [some (.ref a0), some (.int a1), some (.int a2)] ([.int s0, .ref s1]) M = (q_isC 3 s1 = true ∧ q_Run 79 [.ref s1, .int s0] M (fun v M' => q_g 89 none Q 33 [some (.ref a0), some (.int a1), some (.int a2)] (v.toList ++ []) M')) := r_call_virtual (k := 2) (by decide +kernel) (by decide +kernel) (Nat.le_of_ble_eq_true rfl) (Nat.le_of_ble_eq_true rfl) rfl rfl d89_30
theorem d89_33 : decode (q_code 89) 33 = .ok (.ireturn, 1) := by decide +kernel
theorem gA_thing_33 {Q : q_R} {M : q_M} {a0 : Nat} {a1 : Int32} {a2 : Int32} {s0 : Int32} : q_g 89 none Q 33 [some (.ref a0), some (.int a1), some (.int a2)] ([.int s0]) M = Q (some (.int s0)) M := r_iret (r := []) (by decide +kernel) d89_33
theorem d89_34 : decode (q_code 89) 34 = .ok (.aload_n 0, 1) := by decide +kernel
theorem gA_thing_34 {Q : q_R} {M : q_M} {r : List Value} {a0 : Nat} {a1 : Int32} {a2 : Int32} : q_g 89 none Q 34 [some (.ref a0), some (.int a1), some (.int a2)] (r) M = q_g 89 none Q 35 [some (.ref a0), some (.int a1), some (.int a2)] (.ref a0 :: r) M := r_aload_n rfl d89_34
theorem d89_35 : decode (q_code 89) 35 = .ok (.getfield 10, 3) := by decide +kernel
theorem gA_thing_35 {Q : q_R} {M : q_M} {r : List Value} {a0 : Nat} {a1 : Int32} {a2 : Int32} {s0 : Nat} : q_g 89 none Q 35 [some (.ref a0), some (.int a1), some (.int a2)] (.ref s0 :: r) M = (q_isC 3 s0 = true ∧ q_g 89 none Q 38 [some (.ref a0), some (.int a1), some (.int a2)] (.ref (q_rf s0 0) :: r) M) := r_getR (by decide +kernel) (by decide +kernel) d89_35
theorem d89_38 : decode (q_code 89) 38 = .ok (.iload_n 1, 1) := by decide +kernel
theorem gA_thing_38 {Q : q_R} {M : q_M} {r : List Value} {a0 : Nat} {a1 : Int32} {a2 : Int32} : q_g 89 none Q 38 [some (.ref a0), some (.int a1), some (.int a2)] (r) M = q_g 89 none Q 39 [some (.ref a0), some (.int a1), some (.int a2)] (.int a1 :: r) M := r_iload_n rfl d89_38
theorem d89_39 : decode (q_code 89) 39 = .ok (.iload_n 2, 1) := by decide +kernel
theorem gA_thing_39 {Q : q_R} {M : q_M} {r : List Value} {a0 : Nat} {a1 : Int32} {a2 : Int32} : q_g 89 none Q 39 [some (.ref a0), some (.int a1), some (.int a2)] (r) M = q_g 89 none Q 40 [some (.ref a0), some (.int a1), some (.int a2)] (.int a2 :: r) M := r_iload_n rfl d89_39
theorem d89_40 : decode (q_code 89) 40 = .ok (.invokevirtual 84, 3) := by decide +kernel
theorem gA_thing_40 {Q : q_R} {M : q_M} {a0 : Nat} {a1 : Int32} {a2 : Int32} {s0 : Int32} {s1 : Int32} {s2 : Nat} : q_g 89 none Q 40 [some (.ref a0), some (.int a1), some (.int a2)] ([.int s0, .int s1, .ref s2]) M = (q_isC 0 s2 = true ∧ q_Run 17 [.ref s2, .int s1, .int s0] M (fun v M' => q_g 89 none Q 43 [some (.ref a0), some (.int a1), some (.int a2)] (v.toList ++ []) M')) := r_call_virtual (k := 3) (by decide +kernel) (by decide +kernel) (Nat.le_of_ble_eq_true rfl) (Nat.le_of_ble_eq_true rfl) rfl rfl d89_40
theorem d89_43 : decode (q_code 89) 43 = .ok (.ireturn, 1) := by decide +kernel
theorem gA_thing_43 {Q : q_R} {M : q_M} {a0 : Nat} {a1 : Int32} {a2 : Int32} {s0 : Int32} : q_g 89 none Q 43 [some (.ref a0), some (.int a1), some (.int a2)] ([.int s0]) M = Q (some (.int s0)) M := r_iret (r := []) (by decide +kernel) d89_43
theorem e_A_ways {Q : q_R} {M : q_M} {a0 : Nat} {a1 : Int32} : q_Run 90 [.ref a0, .int a1] M Q = q_g 90 none Q 0 [some (.ref a0), some (.int a1), none] [] M := q_entry (Nat.le_of_ble_eq_true rfl) rfl
theorem d90_0 : decode (q_code 90) 0 = .ok (.aload_n 0, 1) := by decide +kernel
theorem gA_ways_0 {Q : q_R} {M : q_M} {r : List Value} {a0 : Nat} {a1 : Int32} {a2 : Option Value} : q_g 90 none Q 0 [some (.ref a0), some (.int a1), a2] (r) M = q_g 90 none Q 1 [some (.ref a0), some (.int a1), a2] (.ref a0 :: r) M := r_aload_n rfl d90_0
theorem d90_1 : decode (q_code 90) 1 = .ok (.iload_n 1, 1) := by decide +kernel
theorem gA_ways_1 {Q : q_R} {M : q_M} {r : List Value} {a0 : Nat} {a1 : Int32} {a2 : Option Value} : q_g 90 none Q 1 [some (.ref a0), some (.int a1), a2] (r) M = q_g 90 none Q 2 [some (.ref a0), some (.int a1), a2] (.int a1 :: r) M := r_iload_n rfl d90_1
theorem d90_2 : decode (q_code 90) 2 = .ok (.invokevirtual 175, 3) := by decide +kernel
theorem gA_ways_2 {Q : q_R} {M : q_M} {a0 : Nat} {a1 : Int32} {a2 : Option Value} {s0 : Int32} {s1 : Nat} : q_g 90 none Q 2 [some (.ref a0), some (.int a1), a2] ([.int s0, .ref s1]) M = (q_isC 3 s1 = true ∧ q_Run 78 [.ref s1, .int s0] M (fun v M' => q_g 90 none Q 5 [some (.ref a0), some (.int a1), a2] (v.toList ++ []) M')) := r_call_virtual (k := 2) (by decide +kernel) (by decide +kernel) (Nat.le_of_ble_eq_true rfl) (Nat.le_of_ble_eq_true rfl) rfl rfl d90_2
theorem d90_5 : decode (q_code 90) 5 = .ok (.istore_n 2, 1) := by decide +kernel
theorem gA_ways_5 {Q : q_R} {M : q_M} {r : List Value} {a0 : Nat} {a1 : Int32} {a2 : Option Value} {s0 : Int32} : q_g 90 none Q 5 [some (.ref a0), some (.int a1), a2] (.int s0 :: r) M = q_g 90 none Q 6 [some (.ref a0), some (.int a1), some (.int s0)] (r) M := r_istore_n (Nat.le_of_ble_eq_true rfl) d90_5
theorem d90_6 : decode (q_code 90) 6 = .ok (.iload_n 2, 1) := by decide +kernel
theorem gA_ways_6 {Q : q_R} {M : q_M} {r : List Value} {a0 : Nat} {a1 : Int32} {a2 : Int32} : q_g 90 none Q 6 [some (.ref a0), some (.int a1), some (.int a2)] (r) M = q_g 90 none Q 7 [some (.ref a0), some (.int a1), some (.int a2)] (.int a2 :: r) M := r_iload_n rfl d90_6
theorem d90_7 : decode (q_code 90) 7 = .ok (.ifCond .eq 9, 3) := by decide +kernel
theorem gA_ways_7 {Q : q_R} {M : q_M} {r : List Value} {a0 : Nat} {a1 : Int32} {a2 : Int32} {s0 : Int32} : q_g 90 none Q 7 [some (.ref a0), some (.int a1), some (.int a2)] (.int s0 :: r) M = (if s0 = 0 then q_g 90 none Q 16 [some (.ref a0), some (.int a1), some (.int a2)] (r) M else q_g 90 none Q 10 [some (.ref a0), some (.int a1), some (.int a2)] (r) M) := r_if_eq (by decide) (by decide) d90_7
theorem d90_10 : decode (q_code 90) 10 = .ok (.aload_n 0, 1) := by decide +kernel
theorem gA_ways_10 {Q : q_R} {M : q_M} {r : List Value} {a0 : Nat} {a1 : Int32} {a2 : Int32} : q_g 90 none Q 10 [some (.ref a0), some (.int a1), some (.int a2)] (r) M = q_g 90 none Q 11 [some (.ref a0), some (.int a1), some (.int a2)] (.ref a0 :: r) M := r_aload_n rfl d90_10
theorem d90_11 : decode (q_code 90) 11 = .ok (.iload_n 2, 1) := by decide +kernel
theorem gA_ways_11 {Q : q_R} {M : q_M} {r : List Value} {a0 : Nat} {a1 : Int32} {a2 : Int32} : q_g 90 none Q 11 [some (.ref a0), some (.int a1), some (.int a2)] (r) M = q_g 90 none Q 12 [some (.ref a0), some (.int a1), some (.int a2)] (.int a2 :: r) M := r_iload_n rfl d90_11
theorem d90_12 : decode (q_code 90) 12 = .ok (.invokevirtual 51, 3) := by decide +kernel
theorem gA_ways_12 {Q : q_R} {M : q_M} {a0 : Nat} {a1 : Int32} {a2 : Int32} {s0 : Int32} {s1 : Nat} : q_g 90 none Q 12 [some (.ref a0), some (.int a1), some (.int a2)] ([.int s0, .ref s1]) M = (q_isC 3 s1 = true ∧ q_Run 79 [.ref s1, .int s0] M (fun v M' => q_g 90 none Q 15 [some (.ref a0), some (.int a1), some (.int a2)] (v.toList ++ []) M')) := r_call_virtual (k := 2) (by decide +kernel) (by decide +kernel) (Nat.le_of_ble_eq_true rfl) (Nat.le_of_ble_eq_true rfl) rfl rfl d90_12
theorem d90_15 : decode (q_code 90) 15 = .ok (.ireturn, 1) := by decide +kernel
theorem gA_ways_15 {Q : q_R} {M : q_M} {a0 : Nat} {a1 : Int32} {a2 : Int32} {s0 : Int32} : q_g 90 none Q 15 [some (.ref a0), some (.int a1), some (.int a2)] ([.int s0]) M = Q (some (.int s0)) M := r_iret (r := []) (by decide +kernel) d90_15
theorem d90_16 : decode (q_code 90) 16 = .ok (.aload_n 0, 1) := by decide +kernel
theorem gA_ways_16 {Q : q_R} {M : q_M} {r : List Value} {a0 : Nat} {a1 : Int32} {a2 : Int32} : q_g 90 none Q 16 [some (.ref a0), some (.int a1), some (.int a2)] (r) M = q_g 90 none Q 17 [some (.ref a0), some (.int a1), some (.int a2)] (.ref a0 :: r) M := r_aload_n rfl d90_16
theorem d90_17 : decode (q_code 90) 17 = .ok (.getfield 32, 3) := by decide +kernel
theorem gA_ways_17 {Q : q_R} {M : q_M} {r : List Value} {a0 : Nat} {a1 : Int32} {a2 : Int32} {s0 : Nat} : q_g 90 none Q 17 [some (.ref a0), some (.int a1), some (.int a2)] (.ref s0 :: r) M = (q_isC 3 s0 = true ∧ q_g 90 none Q 20 [some (.ref a0), some (.int a1), some (.int a2)] (.ref (q_rf s0 4) :: r) M) := r_getR (by decide +kernel) (by decide +kernel) d90_17
theorem d90_20 : decode (q_code 90) 20 = .ok (.aload_n 0, 1) := by decide +kernel
theorem gA_ways_20 {Q : q_R} {M : q_M} {r : List Value} {a0 : Nat} {a1 : Int32} {a2 : Int32} : q_g 90 none Q 20 [some (.ref a0), some (.int a1), some (.int a2)] (r) M = q_g 90 none Q 21 [some (.ref a0), some (.int a1), some (.int a2)] (.ref a0 :: r) M := r_aload_n rfl d90_20
theorem d90_21 : decode (q_code 90) 21 = .ok (.getfield 10, 3) := by decide +kernel
theorem gA_ways_21 {Q : q_R} {M : q_M} {r : List Value} {a0 : Nat} {a1 : Int32} {a2 : Int32} {s0 : Nat} : q_g 90 none Q 21 [some (.ref a0), some (.int a1), some (.int a2)] (.ref s0 :: r) M = (q_isC 3 s0 = true ∧ q_g 90 none Q 24 [some (.ref a0), some (.int a1), some (.int a2)] (.ref (q_rf s0 0) :: r) M) := r_getR (by decide +kernel) (by decide +kernel) d90_21
theorem d90_24 : decode (q_code 90) 24 = .ok (.iload_n 1, 1) := by decide +kernel
theorem gA_ways_24 {Q : q_R} {M : q_M} {r : List Value} {a0 : Nat} {a1 : Int32} {a2 : Int32} : q_g 90 none Q 24 [some (.ref a0), some (.int a1), some (.int a2)] (r) M = q_g 90 none Q 25 [some (.ref a0), some (.int a1), some (.int a2)] (.int a1 :: r) M := r_iload_n rfl d90_24
theorem d90_25 : decode (q_code 90) 25 = .ok (.invokevirtual 178, 3) := by decide +kernel
theorem gA_ways_25 {Q : q_R} {M : q_M} {a0 : Nat} {a1 : Int32} {a2 : Int32} {s0 : Int32} {s1 : Nat} {s2 : Nat} : q_g 90 none Q 25 [some (.ref a0), some (.int a1), some (.int a2)] ([.int s0, .ref s1, .ref s2]) M = (q_isC 1 s2 = true ∧ q_Run 22 [.ref s2, .ref s1, .int s0] M (fun v M' => q_g 90 none Q 28 [some (.ref a0), some (.int a1), some (.int a2)] (v.toList ++ []) M')) := r_call_virtual (k := 3) (by decide +kernel) (by decide +kernel) (Nat.le_of_ble_eq_true rfl) (Nat.le_of_ble_eq_true rfl) rfl rfl d90_25
theorem d90_28 : decode (q_code 90) 28 = .ok (.ireturn, 1) := by decide +kernel
theorem gA_ways_28 {Q : q_R} {M : q_M} {a0 : Nat} {a1 : Int32} {a2 : Int32} {s0 : Int32} : q_g 90 none Q 28 [some (.ref a0), some (.int a1), some (.int a2)] ([.int s0]) M = Q (some (.int s0)) M := r_iret (r := []) (by decide +kernel) d90_28
theorem e_A_with {Q : q_R} {M : q_M} {a0 : Nat} {a1 : Int32} : q_Run 91 [.ref a0, .int a1] M Q = q_g 91 none Q 0 [some (.ref a0), some (.int a1)] [] M := q_entry (Nat.le_of_ble_eq_true rfl) rfl
theorem d91_0 : decode (q_code 91) 0 = .ok (.aload_n 0, 1) := by decide +kernel
theorem gA_with_0 {Q : q_R} {M : q_M} {r : List Value} {a0 : Nat} {a1 : Int32} : q_g 91 none Q 0 [some (.ref a0), some (.int a1)] (r) M = q_g 91 none Q 1 [some (.ref a0), some (.int a1)] (.ref a0 :: r) M := r_aload_n rfl d91_0
theorem d91_1 : decode (q_code 91) 1 = .ok (.getfield 10, 3) := by decide +kernel
theorem gA_with_1 {Q : q_R} {M : q_M} {r : List Value} {a0 : Nat} {a1 : Int32} {s0 : Nat} : q_g 91 none Q 1 [some (.ref a0), some (.int a1)] (.ref s0 :: r) M = (q_isC 3 s0 = true ∧ q_g 91 none Q 4 [some (.ref a0), some (.int a1)] (.ref (q_rf s0 0) :: r) M) := r_getR (by decide +kernel) (by decide +kernel) d91_1
theorem d91_4 : decode (q_code 91) 4 = .ok (.iload_n 1, 1) := by decide +kernel
theorem gA_with_4 {Q : q_R} {M : q_M} {r : List Value} {a0 : Nat} {a1 : Int32} : q_g 91 none Q 4 [some (.ref a0), some (.int a1)] (r) M = q_g 91 none Q 5 [some (.ref a0), some (.int a1)] (.int a1 :: r) M := r_iload_n rfl d91_4
theorem d91_5 : decode (q_code 91) 5 = .ok (.invokevirtual 119, 3) := by decide +kernel
theorem gA_with_5 {Q : q_R} {M : q_M} {a0 : Nat} {a1 : Int32} {s0 : Int32} {s1 : Nat} : q_g 91 none Q 5 [some (.ref a0), some (.int a1)] ([.int s0, .ref s1]) M = (q_isC 0 s1 = true ∧ q_Run 10 [.ref s1, .int s0] M (fun v M' => q_g 91 none Q 8 [some (.ref a0), some (.int a1)] (v.toList ++ []) M')) := r_call_virtual (k := 2) (by decide +kernel) (by decide +kernel) (Nat.le_of_ble_eq_true rfl) (Nat.le_of_ble_eq_true rfl) rfl rfl d91_5
theorem d91_8 : decode (q_code 91) 8 = .ok (.ifCond .ne 9, 3) := by decide +kernel
theorem gA_with_8 {Q : q_R} {M : q_M} {r : List Value} {a0 : Nat} {a1 : Int32} {s0 : Int32} : q_g 91 none Q 8 [some (.ref a0), some (.int a1)] (.int s0 :: r) M = (if ¬ s0 = 0 then q_g 91 none Q 17 [some (.ref a0), some (.int a1)] (r) M else q_g 91 none Q 11 [some (.ref a0), some (.int a1)] (r) M) := r_if_ne (by decide) (by decide) d91_8
theorem d91_11 : decode (q_code 91) 11 = .ok (.aload_n 0, 1) := by decide +kernel
theorem gA_with_11 {Q : q_R} {M : q_M} {r : List Value} {a0 : Nat} {a1 : Int32} : q_g 91 none Q 11 [some (.ref a0), some (.int a1)] (r) M = q_g 91 none Q 12 [some (.ref a0), some (.int a1)] (.ref a0 :: r) M := r_aload_n rfl d91_11
theorem d91_12 : decode (q_code 91) 12 = .ok (.iconst (-1), 1) := by decide +kernel
theorem gA_with_12 {Q : q_R} {M : q_M} {r : List Value} {a0 : Nat} {a1 : Int32} : q_g 91 none Q 12 [some (.ref a0), some (.int a1)] (r) M = q_g 91 none Q 13 [some (.ref a0), some (.int a1)] (.int (-1) :: r) M := r_iconst (by decide) d91_12
theorem d91_13 : decode (q_code 91) 13 = .ok (.invokevirtual 51, 3) := by decide +kernel
theorem gA_with_13 {Q : q_R} {M : q_M} {a0 : Nat} {a1 : Int32} {s0 : Int32} {s1 : Nat} : q_g 91 none Q 13 [some (.ref a0), some (.int a1)] ([.int s0, .ref s1]) M = (q_isC 3 s1 = true ∧ q_Run 79 [.ref s1, .int s0] M (fun v M' => q_g 91 none Q 16 [some (.ref a0), some (.int a1)] (v.toList ++ []) M')) := r_call_virtual (k := 2) (by decide +kernel) (by decide +kernel) (Nat.le_of_ble_eq_true rfl) (Nat.le_of_ble_eq_true rfl) rfl rfl d91_13
theorem d91_16 : decode (q_code 91) 16 = .ok (.ireturn, 1) := by decide +kernel
theorem gA_with_16 {Q : q_R} {M : q_M} {a0 : Nat} {a1 : Int32} {s0 : Int32} : q_g 91 none Q 16 [some (.ref a0), some (.int a1)] ([.int s0]) M = Q (some (.int s0)) M := r_iret (r := []) (by decide +kernel) d91_16
theorem d91_17 : decode (q_code 91) 17 = .ok (.aload_n 0, 1) := by decide +kernel
theorem gA_with_17 {Q : q_R} {M : q_M} {r : List Value} {a0 : Nat} {a1 : Int32} : q_g 91 none Q 17 [some (.ref a0), some (.int a1)] (r) M = q_g 91 none Q 18 [some (.ref a0), some (.int a1)] (.ref a0 :: r) M := r_aload_n rfl d91_17
theorem d91_18 : decode (q_code 91) 18 = .ok (.getfield 10, 3) := by decide +kernel
theorem gA_with_18 {Q : q_R} {M : q_M} {r : List Value} {a0 : Nat} {a1 : Int32} {s0 : Nat} : q_g 91 none Q 18 [some (.ref a0), some (.int a1)] (.ref s0 :: r) M = (q_isC 3 s0 = true ∧ q_g 91 none Q 21 [some (.ref a0), some (.int a1)] (.ref (q_rf s0 0) :: r) M) := r_getR (by decide +kernel) (by decide +kernel) d91_18
theorem d91_21 : decode (q_code 91) 21 = .ok (.iload_n 1, 1) := by decide +kernel
theorem gA_with_21 {Q : q_R} {M : q_M} {r : List Value} {a0 : Nat} {a1 : Int32} : q_g 91 none Q 21 [some (.ref a0), some (.int a1)] (r) M = q_g 91 none Q 22 [some (.ref a0), some (.int a1)] (.int a1 :: r) M := r_iload_n rfl d91_21
theorem d91_22 : decode (q_code 91) 22 = .ok (.invokevirtual 116, 3) := by decide +kernel
theorem gA_with_22 {Q : q_R} {M : q_M} {a0 : Nat} {a1 : Int32} {s0 : Int32} {s1 : Nat} : q_g 91 none Q 22 [some (.ref a0), some (.int a1)] ([.int s0, .ref s1]) M = (q_isC 0 s1 = true ∧ q_Run 12 [.ref s1, .int s0] M (fun v M' => q_g 91 none Q 25 [some (.ref a0), some (.int a1)] (v.toList ++ []) M')) := r_call_virtual (k := 2) (by decide +kernel) (by decide +kernel) (Nat.le_of_ble_eq_true rfl) (Nat.le_of_ble_eq_true rfl) rfl rfl d91_22
theorem d91_25 : decode (q_code 91) 25 = .ok (.ireturn, 1) := by decide +kernel
theorem gA_with_25 {Q : q_R} {M : q_M} {a0 : Nat} {a1 : Int32} {s0 : Int32} : q_g 91 none Q 25 [some (.ref a0), some (.int a1)] ([.int s0]) M = Q (some (.int s0)) M := r_iret (r := []) (by decide +kernel) d91_25
