theorem e_R_faultHere {Q : q_R} {M : q_M} {a0 : Nat} : q_Run 28 [.ref a0] M Q = q_g 28 none Q 0 [some (.ref a0)] [] M := q_entry (Nat.le_of_ble_eq_true rfl) rfl
theorem d28_0 : decode (q_code 28) 0 = .ok (.sipush (-1000), 3) := by decide +kernel
theorem gR_faultHere_0 {Q : q_R} {M : q_M} {r : List Value} {a0 : Nat} : q_g 28 none Q 0 [some (.ref a0)] (r) M = q_g 28 none Q 3 [some (.ref a0)] (.int (-1000) :: r) M := r_sipush (by decide) d28_0
theorem d28_3 : decode (q_code 28) 3 = .ok (.aload_n 0, 1) := by decide +kernel
theorem gR_faultHere_3 {Q : q_R} {M : q_M} {r : List Value} {a0 : Nat} : q_g 28 none Q 3 [some (.ref a0)] (r) M = q_g 28 none Q 4 [some (.ref a0)] (.ref a0 :: r) M := r_aload_n rfl d28_3
theorem d28_4 : decode (q_code 28) 4 = .ok (.getfield 25, 3) := by decide +kernel
theorem gR_faultHere_4 {Q : q_R} {M : q_M} {r : List Value} {a0 : Nat} {s0 : Nat} : q_g 28 none Q 4 [some (.ref a0)] (.ref s0 :: r) M = (q_isC 2 s0 = true ∧ q_g 28 none Q 7 [some (.ref a0)] (.int (M s0 2) :: r) M) := r_getI (by decide +kernel) (by decide +kernel) d28_4
theorem d28_7 : decode (q_code 28) 7 = .ok (.isub, 1) := by decide +kernel
theorem gR_faultHere_7 {Q : q_R} {M : q_M} {r : List Value} {a0 : Nat} {s0 : Int32} {s1 : Int32} : q_g 28 none Q 7 [some (.ref a0)] (.int s0 :: .int s1 :: r) M = q_g 28 none Q 8 [some (.ref a0)] (.int (s1 - s0) :: r) M := r_isub d28_7
theorem d28_8 : decode (q_code 28) 8 = .ok (.ireturn, 1) := by decide +kernel
theorem gR_faultHere_8 {Q : q_R} {M : q_M} {a0 : Nat} {s0 : Int32} : q_g 28 none Q 8 [some (.ref a0)] ([.int s0]) M = Q (some (.int s0)) M := r_iret (r := []) (by decide +kernel) d28_8
theorem e_R_forget {Q : q_R} {M : q_M} {a0 : Nat} : q_Run 29 [.ref a0] M Q = q_g 29 none Q 0 [some (.ref a0)] [] M := q_entry (Nat.le_of_ble_eq_true rfl) rfl
theorem d29_0 : decode (q_code 29) 0 = .ok (.aload_n 0, 1) := by decide +kernel
theorem gR_forget_0 {Q : q_R} {M : q_M} {r : List Value} {a0 : Nat} : q_g 29 none Q 0 [some (.ref a0)] (r) M = q_g 29 none Q 1 [some (.ref a0)] (.ref a0 :: r) M := r_aload_n rfl d29_0
theorem d29_1 : decode (q_code 29) 1 = .ok (.iconst 0, 1) := by decide +kernel
theorem gR_forget_1 {Q : q_R} {M : q_M} {r : List Value} {a0 : Nat} : q_g 29 none Q 1 [some (.ref a0)] (r) M = q_g 29 none Q 2 [some (.ref a0)] (.int 0 :: r) M := r_iconst (by decide) d29_1
theorem d29_2 : decode (q_code 29) 2 = .ok (.putfield 15, 3) := by decide +kernel
theorem gR_forget_2 {Q : q_R} {M : q_M} {r : List Value} {a0 : Nat} {s0 : Int32} {s1 : Nat} : q_g 29 none Q 2 [some (.ref a0)] (.int s0 :: .ref s1 :: r) M = (q_isC 2 s1 = true ∧ q_g 29 none Q 5 [some (.ref a0)] (r) (q_put M s1 1 s0)) := r_putI (by decide +kernel) (by decide +kernel) (by decide +kernel) d29_2
theorem d29_5 : decode (q_code 29) 5 = .ok (.return_, 1) := by decide +kernel
theorem gR_forget_5 {Q : q_R} {M : q_M} {a0 : Nat} : q_g 29 none Q 5 [some (.ref a0)] ([]) M = Q none M := r_vret (r := []) (by decide +kernel) d29_5
theorem e_R_hear {Q : q_R} {M : q_M} {a0 : Nat} {a1 : Int32} : q_Run 30 [.ref a0, .int a1] M Q = q_g 30 none Q 0 [some (.ref a0), some (.int a1)] [] M := q_entry (Nat.le_of_ble_eq_true rfl) rfl
theorem d30_0 : decode (q_code 30) 0 = .ok (.aload_n 0, 1) := by decide +kernel
theorem gR_hear_0 {Q : q_R} {M : q_M} {r : List Value} {a0 : Nat} {a1 : Int32} : q_g 30 none Q 0 [some (.ref a0), some (.int a1)] (r) M = q_g 30 none Q 1 [some (.ref a0), some (.int a1)] (.ref a0 :: r) M := r_aload_n rfl d30_0
theorem d30_1 : decode (q_code 30) 1 = .ok (.getfield 9, 3) := by decide +kernel
theorem gR_hear_1 {Q : q_R} {M : q_M} {r : List Value} {a0 : Nat} {a1 : Int32} {s0 : Nat} : q_g 30 none Q 1 [some (.ref a0), some (.int a1)] (.ref s0 :: r) M = (q_isC 2 s0 = true ∧ q_g 30 none Q 4 [some (.ref a0), some (.int a1)] (.ref (q_rf s0 0) :: r) M) := r_getR (by decide +kernel) (by decide +kernel) d30_1
theorem d30_4 : decode (q_code 30) 4 = .ok (.aload_n 0, 1) := by decide +kernel
theorem gR_hear_4 {Q : q_R} {M : q_M} {r : List Value} {a0 : Nat} {a1 : Int32} : q_g 30 none Q 4 [some (.ref a0), some (.int a1)] (r) M = q_g 30 none Q 5 [some (.ref a0), some (.int a1)] (.ref a0 :: r) M := r_aload_n rfl d30_4
theorem d30_5 : decode (q_code 30) 5 = .ok (.getfield 15, 3) := by decide +kernel
theorem gR_hear_5 {Q : q_R} {M : q_M} {r : List Value} {a0 : Nat} {a1 : Int32} {s0 : Nat} : q_g 30 none Q 5 [some (.ref a0), some (.int a1)] (.ref s0 :: r) M = (q_isC 2 s0 = true ∧ q_g 30 none Q 8 [some (.ref a0), some (.int a1)] (.int (M s0 1) :: r) M) := r_getI (by decide +kernel) (by decide +kernel) d30_5
theorem d30_8 : decode (q_code 30) 8 = .ok (.iload_n 1, 1) := by decide +kernel
theorem gR_hear_8 {Q : q_R} {M : q_M} {r : List Value} {a0 : Nat} {a1 : Int32} : q_g 30 none Q 8 [some (.ref a0), some (.int a1)] (r) M = q_g 30 none Q 9 [some (.ref a0), some (.int a1)] (.int a1 :: r) M := r_iload_n rfl d30_8
theorem d30_9 : decode (q_code 30) 9 = .ok (.invokestatic 19, 3) := by decide +kernel
theorem gR_hear_9 {Q : q_R} {M : q_M} {a0 : Nat} {a1 : Int32} {s0 : Int32} {s1 : Int32} {s2 : Nat} : q_g 30 none Q 9 [some (.ref a0), some (.int a1)] ([.int s0, .int s1, .ref s2]) M = q_Run 2 [.ref s2, .int s1, .int s0] M (fun v M' => q_g 30 none Q 12 [some (.ref a0), some (.int a1)] (v.toList ++ []) M') := r_call_static (k := 3) (by decide +kernel) (by decide +kernel) (by decide +kernel) (Nat.le_of_ble_eq_true rfl) (Nat.le_of_ble_eq_true rfl) rfl rfl d30_9
theorem d30_12 : decode (q_code 30) 12 = .ok (.aload_n 0, 1) := by decide +kernel
theorem gR_hear_12 {Q : q_R} {M : q_M} {r : List Value} {a0 : Nat} {a1 : Int32} : q_g 30 none Q 12 [some (.ref a0), some (.int a1)] (r) M = q_g 30 none Q 13 [some (.ref a0), some (.int a1)] (.ref a0 :: r) M := r_aload_n rfl d30_12
theorem d30_13 : decode (q_code 30) 13 = .ok (.dup, 1) := by decide +kernel
theorem gR_hear_13 {Q : q_R} {M : q_M} {r : List Value} {a0 : Nat} {a1 : Int32} {s0 : Nat} : q_g 30 none Q 13 [some (.ref a0), some (.int a1)] (.ref s0 :: r) M = q_g 30 none Q 14 [some (.ref a0), some (.int a1)] (.ref s0 :: .ref s0 :: r) M := r_dup rfl d30_13
theorem d30_14 : decode (q_code 30) 14 = .ok (.getfield 15, 3) := by decide +kernel
theorem gR_hear_14 {Q : q_R} {M : q_M} {r : List Value} {a0 : Nat} {a1 : Int32} {s0 : Nat} : q_g 30 none Q 14 [some (.ref a0), some (.int a1)] (.ref s0 :: r) M = (q_isC 2 s0 = true ∧ q_g 30 none Q 17 [some (.ref a0), some (.int a1)] (.int (M s0 1) :: r) M) := r_getI (by decide +kernel) (by decide +kernel) d30_14
theorem d30_17 : decode (q_code 30) 17 = .ok (.iconst 1, 1) := by decide +kernel
theorem gR_hear_17 {Q : q_R} {M : q_M} {r : List Value} {a0 : Nat} {a1 : Int32} : q_g 30 none Q 17 [some (.ref a0), some (.int a1)] (r) M = q_g 30 none Q 18 [some (.ref a0), some (.int a1)] (.int 1 :: r) M := r_iconst (by decide) d30_17
theorem d30_18 : decode (q_code 30) 18 = .ok (.iadd, 1) := by decide +kernel
theorem gR_hear_18 {Q : q_R} {M : q_M} {r : List Value} {a0 : Nat} {a1 : Int32} {s0 : Int32} {s1 : Int32} : q_g 30 none Q 18 [some (.ref a0), some (.int a1)] (.int s0 :: .int s1 :: r) M = q_g 30 none Q 19 [some (.ref a0), some (.int a1)] (.int (s1 + s0) :: r) M := r_iadd d30_18
theorem d30_19 : decode (q_code 30) 19 = .ok (.putfield 15, 3) := by decide +kernel
theorem gR_hear_19 {Q : q_R} {M : q_M} {r : List Value} {a0 : Nat} {a1 : Int32} {s0 : Int32} {s1 : Nat} : q_g 30 none Q 19 [some (.ref a0), some (.int a1)] (.int s0 :: .ref s1 :: r) M = (q_isC 2 s1 = true ∧ q_g 30 none Q 22 [some (.ref a0), some (.int a1)] (r) (q_put M s1 1 s0)) := r_putI (by decide +kernel) (by decide +kernel) (by decide +kernel) d30_19
theorem d30_22 : decode (q_code 30) 22 = .ok (.aload_n 0, 1) := by decide +kernel
theorem gR_hear_22 {Q : q_R} {M : q_M} {r : List Value} {a0 : Nat} {a1 : Int32} : q_g 30 none Q 22 [some (.ref a0), some (.int a1)] (r) M = q_g 30 none Q 23 [some (.ref a0), some (.int a1)] (.ref a0 :: r) M := r_aload_n rfl d30_22
theorem d30_23 : decode (q_code 30) 23 = .ok (.getfield 15, 3) := by decide +kernel
theorem gR_hear_23 {Q : q_R} {M : q_M} {r : List Value} {a0 : Nat} {a1 : Int32} {s0 : Nat} : q_g 30 none Q 23 [some (.ref a0), some (.int a1)] (.ref s0 :: r) M = (q_isC 2 s0 = true ∧ q_g 30 none Q 26 [some (.ref a0), some (.int a1)] (.int (M s0 1) :: r) M) := r_getI (by decide +kernel) (by decide +kernel) d30_23
theorem d30_26 : decode (q_code 30) 26 = .ok (.ireturn, 1) := by decide +kernel
theorem gR_hear_26 {Q : q_R} {M : q_M} {a0 : Nat} {a1 : Int32} {s0 : Int32} : q_g 30 none Q 26 [some (.ref a0), some (.int a1)] ([.int s0]) M = Q (some (.int s0)) M := r_iret (r := []) (by decide +kernel) d30_26
theorem e_R_here {Q : q_R} {M : q_M} {a0 : Nat} : q_Run 31 [.ref a0] M Q = q_g 31 none Q 0 [some (.ref a0)] [] M := q_entry (Nat.le_of_ble_eq_true rfl) rfl
theorem d31_0 : decode (q_code 31) 0 = .ok (.aload_n 0, 1) := by decide +kernel
theorem gR_here_0 {Q : q_R} {M : q_M} {r : List Value} {a0 : Nat} : q_g 31 none Q 0 [some (.ref a0)] (r) M = q_g 31 none Q 1 [some (.ref a0)] (.ref a0 :: r) M := r_aload_n rfl d31_0
theorem d31_1 : decode (q_code 31) 1 = .ok (.getfield 25, 3) := by decide +kernel
theorem gR_here_1 {Q : q_R} {M : q_M} {r : List Value} {a0 : Nat} {s0 : Nat} : q_g 31 none Q 1 [some (.ref a0)] (.ref s0 :: r) M = (q_isC 2 s0 = true ∧ q_g 31 none Q 4 [some (.ref a0)] (.int (M s0 2) :: r) M) := r_getI (by decide +kernel) (by decide +kernel) d31_1
theorem d31_4 : decode (q_code 31) 4 = .ok (.ifCond .lt 38, 3) := by decide +kernel
theorem gR_here_4 {Q : q_R} {M : q_M} {r : List Value} {a0 : Nat} {s0 : Int32} : q_g 31 none Q 4 [some (.ref a0)] (.int s0 :: r) M = (if s0 < 0 then q_g 31 none Q 42 [some (.ref a0)] (r) M else q_g 31 none Q 7 [some (.ref a0)] (r) M) := r_if_lt (by decide) (by decide) d31_4
theorem d31_7 : decode (q_code 31) 7 = .ok (.aload_n 0, 1) := by decide +kernel
theorem gR_here_7 {Q : q_R} {M : q_M} {r : List Value} {a0 : Nat} : q_g 31 none Q 7 [some (.ref a0)] (r) M = q_g 31 none Q 8 [some (.ref a0)] (.ref a0 :: r) M := r_aload_n rfl d31_7
theorem d31_8 : decode (q_code 31) 8 = .ok (.getfield 25, 3) := by decide +kernel
theorem gR_here_8 {Q : q_R} {M : q_M} {r : List Value} {a0 : Nat} {s0 : Nat} : q_g 31 none Q 8 [some (.ref a0)] (.ref s0 :: r) M = (q_isC 2 s0 = true ∧ q_g 31 none Q 11 [some (.ref a0)] (.int (M s0 2) :: r) M) := r_getI (by decide +kernel) (by decide +kernel) d31_8
theorem d31_11 : decode (q_code 31) 11 = .ok (.aload_n 0, 1) := by decide +kernel
theorem gR_here_11 {Q : q_R} {M : q_M} {r : List Value} {a0 : Nat} : q_g 31 none Q 11 [some (.ref a0)] (r) M = q_g 31 none Q 12 [some (.ref a0)] (.ref a0 :: r) M := r_aload_n rfl d31_11
theorem d31_12 : decode (q_code 31) 12 = .ok (.getfield 15, 3) := by decide +kernel
theorem gR_here_12 {Q : q_R} {M : q_M} {r : List Value} {a0 : Nat} {s0 : Nat} : q_g 31 none Q 12 [some (.ref a0)] (.ref s0 :: r) M = (q_isC 2 s0 = true ∧ q_g 31 none Q 15 [some (.ref a0)] (.int (M s0 1) :: r) M) := r_getI (by decide +kernel) (by decide +kernel) d31_12
theorem d31_15 : decode (q_code 31) 15 = .ok (.if_icmp .ge 27, 3) := by decide +kernel
theorem gR_here_15 {Q : q_R} {M : q_M} {r : List Value} {a0 : Nat} {s0 : Int32} {s1 : Int32} : q_g 31 none Q 15 [some (.ref a0)] (.int s0 :: .int s1 :: r) M = (if s0 ≤ s1 then q_g 31 none Q 42 [some (.ref a0)] (r) M else q_g 31 none Q 18 [some (.ref a0)] (r) M) := r_icmp_ge (by decide) (by decide) d31_15
theorem d31_18 : decode (q_code 31) 18 = .ok (.aload_n 0, 1) := by decide +kernel
theorem gR_here_18 {Q : q_R} {M : q_M} {r : List Value} {a0 : Nat} : q_g 31 none Q 18 [some (.ref a0)] (r) M = q_g 31 none Q 19 [some (.ref a0)] (.ref a0 :: r) M := r_aload_n rfl d31_18
theorem d31_19 : decode (q_code 31) 19 = .ok (.getfield 25, 3) := by decide +kernel
theorem gR_here_19 {Q : q_R} {M : q_M} {r : List Value} {a0 : Nat} {s0 : Nat} : q_g 31 none Q 19 [some (.ref a0)] (.ref s0 :: r) M = (q_isC 2 s0 = true ∧ q_g 31 none Q 22 [some (.ref a0)] (.int (M s0 2) :: r) M) := r_getI (by decide +kernel) (by decide +kernel) d31_19
theorem d31_22 : decode (q_code 31) 22 = .ok (.aload_n 0, 1) := by decide +kernel
theorem gR_here_22 {Q : q_R} {M : q_M} {r : List Value} {a0 : Nat} : q_g 31 none Q 22 [some (.ref a0)] (r) M = q_g 31 none Q 23 [some (.ref a0)] (.ref a0 :: r) M := r_aload_n rfl d31_22
theorem d31_23 : decode (q_code 31) 23 = .ok (.getfield 9, 3) := by decide +kernel
theorem gR_here_23 {Q : q_R} {M : q_M} {r : List Value} {a0 : Nat} {s0 : Nat} : q_g 31 none Q 23 [some (.ref a0)] (.ref s0 :: r) M = (q_isC 2 s0 = true ∧ q_g 31 none Q 26 [some (.ref a0)] (.ref (q_rf s0 0) :: r) M) := r_getR (by decide +kernel) (by decide +kernel) d31_23
theorem d31_26 : decode (q_code 31) 26 = .ok (.arraylength, 1) := by decide +kernel
theorem gR_here_26 {Q : q_R} {M : q_M} {r : List Value} {a0 : Nat} {s0 : Nat} : q_g 31 none Q 26 [some (.ref a0)] (.ref s0 :: r) M = ((q_alen s0).isSome = true ∧ q_g 31 none Q 27 [some (.ref a0)] (.int (Int32.ofNat (q_alenD s0)) :: r) M) := r_alen d31_26
theorem d31_27 : decode (q_code 31) 27 = .ok (.if_icmp .ge 15, 3) := by decide +kernel
theorem gR_here_27 {Q : q_R} {M : q_M} {r : List Value} {a0 : Nat} {s0 : Int32} {s1 : Int32} : q_g 31 none Q 27 [some (.ref a0)] (.int s0 :: .int s1 :: r) M = (if s0 ≤ s1 then q_g 31 none Q 42 [some (.ref a0)] (r) M else q_g 31 none Q 30 [some (.ref a0)] (r) M) := r_icmp_ge (by decide) (by decide) d31_27
theorem d31_30 : decode (q_code 31) 30 = .ok (.aload_n 0, 1) := by decide +kernel
theorem gR_here_30 {Q : q_R} {M : q_M} {r : List Value} {a0 : Nat} : q_g 31 none Q 30 [some (.ref a0)] (r) M = q_g 31 none Q 31 [some (.ref a0)] (.ref a0 :: r) M := r_aload_n rfl d31_30
theorem d31_31 : decode (q_code 31) 31 = .ok (.getfield 9, 3) := by decide +kernel
theorem gR_here_31 {Q : q_R} {M : q_M} {r : List Value} {a0 : Nat} {s0 : Nat} : q_g 31 none Q 31 [some (.ref a0)] (.ref s0 :: r) M = (q_isC 2 s0 = true ∧ q_g 31 none Q 34 [some (.ref a0)] (.ref (q_rf s0 0) :: r) M) := r_getR (by decide +kernel) (by decide +kernel) d31_31
theorem d31_34 : decode (q_code 31) 34 = .ok (.aload_n 0, 1) := by decide +kernel
theorem gR_here_34 {Q : q_R} {M : q_M} {r : List Value} {a0 : Nat} : q_g 31 none Q 34 [some (.ref a0)] (r) M = q_g 31 none Q 35 [some (.ref a0)] (.ref a0 :: r) M := r_aload_n rfl d31_34
theorem d31_35 : decode (q_code 31) 35 = .ok (.getfield 25, 3) := by decide +kernel
theorem gR_here_35 {Q : q_R} {M : q_M} {r : List Value} {a0 : Nat} {s0 : Nat} : q_g 31 none Q 35 [some (.ref a0)] (.ref s0 :: r) M = (q_isC 2 s0 = true ∧ q_g 31 none Q 38 [some (.ref a0)] (.int (M s0 2) :: r) M) := r_getI (by decide +kernel) (by decide +kernel) d31_35
theorem d31_38 : decode (q_code 31) 38 = .ok (.iaload, 1) := by decide +kernel
theorem gR_here_38 {Q : q_R} {M : q_M} {r : List Value} {a0 : Nat} {s0 : Int32} {s1 : Nat} : q_g 31 none Q 38 [some (.ref a0)] (.int s0 :: .ref s1 :: r) M = (q_in s0 (q_alenD s1) = true ∧ q_g 31 none Q 39 [some (.ref a0)] (.int (M s1 s0.toNatClampNeg) :: r) M) := r_iaload d31_38
theorem d31_39 : decode (q_code 31) 39 = .ok (.goto 4, 3) := by decide +kernel
theorem gR_here_39 {Q : q_R} {M : q_M} {r : List Value} {a0 : Nat} : q_g 31 none Q 39 [some (.ref a0)] (r) M = q_g 31 none Q 43 [some (.ref a0)] (r) M := r_goto (by decide) (by decide) d31_39
theorem d31_42 : decode (q_code 31) 42 = .ok (.iconst (-1), 1) := by decide +kernel
theorem gR_here_42 {Q : q_R} {M : q_M} {r : List Value} {a0 : Nat} : q_g 31 none Q 42 [some (.ref a0)] (r) M = q_g 31 none Q 43 [some (.ref a0)] (.int (-1) :: r) M := r_iconst (by decide) d31_42
theorem d31_43 : decode (q_code 31) 43 = .ok (.ireturn, 1) := by decide +kernel
theorem gR_here_43 {Q : q_R} {M : q_M} {a0 : Nat} {s0 : Int32} : q_g 31 none Q 43 [some (.ref a0)] ([.int s0]) M = Q (some (.int s0)) M := r_iret (r := []) (by decide +kernel) d31_43
theorem e_R_isFull {Q : q_R} {M : q_M} {a0 : Nat} : q_Run 32 [.ref a0] M Q = q_g 32 none Q 0 [some (.ref a0)] [] M := q_entry (Nat.le_of_ble_eq_true rfl) rfl
theorem d32_0 : decode (q_code 32) 0 = .ok (.aload_n 0, 1) := by decide +kernel
theorem gR_isFull_0 {Q : q_R} {M : q_M} {r : List Value} {a0 : Nat} : q_g 32 none Q 0 [some (.ref a0)] (r) M = q_g 32 none Q 1 [some (.ref a0)] (.ref a0 :: r) M := r_aload_n rfl d32_0
theorem d32_1 : decode (q_code 32) 1 = .ok (.getfield 15, 3) := by decide +kernel
theorem gR_isFull_1 {Q : q_R} {M : q_M} {r : List Value} {a0 : Nat} {s0 : Nat} : q_g 32 none Q 1 [some (.ref a0)] (.ref s0 :: r) M = (q_isC 2 s0 = true ∧ q_g 32 none Q 4 [some (.ref a0)] (.int (M s0 1) :: r) M) := r_getI (by decide +kernel) (by decide +kernel) d32_1
theorem d32_4 : decode (q_code 32) 4 = .ok (.bipush 96, 2) := by decide +kernel
theorem gR_isFull_4 {Q : q_R} {M : q_M} {r : List Value} {a0 : Nat} : q_g 32 none Q 4 [some (.ref a0)] (r) M = q_g 32 none Q 6 [some (.ref a0)] (.int 96 :: r) M := r_bipush (by decide) d32_4
theorem d32_6 : decode (q_code 32) 6 = .ok (.if_icmp .lt 7, 3) := by decide +kernel
theorem gR_isFull_6 {Q : q_R} {M : q_M} {r : List Value} {a0 : Nat} {s0 : Int32} {s1 : Int32} : q_g 32 none Q 6 [some (.ref a0)] (.int s0 :: .int s1 :: r) M = (if s1 < s0 then q_g 32 none Q 13 [some (.ref a0)] (r) M else q_g 32 none Q 9 [some (.ref a0)] (r) M) := r_icmp_lt (by decide) (by decide) d32_6
theorem d32_9 : decode (q_code 32) 9 = .ok (.iconst 1, 1) := by decide +kernel
theorem gR_isFull_9 {Q : q_R} {M : q_M} {r : List Value} {a0 : Nat} : q_g 32 none Q 9 [some (.ref a0)] (r) M = q_g 32 none Q 10 [some (.ref a0)] (.int 1 :: r) M := r_iconst (by decide) d32_9
theorem d32_10 : decode (q_code 32) 10 = .ok (.goto 4, 3) := by decide +kernel
theorem gR_isFull_10 {Q : q_R} {M : q_M} {r : List Value} {a0 : Nat} : q_g 32 none Q 10 [some (.ref a0)] (r) M = q_g 32 none Q 14 [some (.ref a0)] (r) M := r_goto (by decide) (by decide) d32_10
theorem d32_13 : decode (q_code 32) 13 = .ok (.iconst 0, 1) := by decide +kernel
theorem gR_isFull_13 {Q : q_R} {M : q_M} {r : List Value} {a0 : Nat} : q_g 32 none Q 13 [some (.ref a0)] (r) M = q_g 32 none Q 14 [some (.ref a0)] (.int 0 :: r) M := r_iconst (by decide) d32_13
theorem d32_14 : decode (q_code 32) 14 = .ok (.ireturn, 1) := by decide +kernel
theorem gR_isFull_14 {Q : q_R} {M : q_M} {a0 : Nat} {s0 : Int32} : q_g 32 none Q 14 [some (.ref a0)] ([.int s0]) M = ((s0 = 0 ∨ s0 = 1) ∧ Q (some (.int s0)) M) := r_zret (r := []) (by decide +kernel) d32_14
theorem e_R_kindOf {Q : q_R} {M : q_M} {a0 : Int32} : q_Run 33 [.int a0] M Q = q_g 33 none Q 0 [some (.int a0)] [] M := q_entry (Nat.le_of_ble_eq_true rfl) rfl
theorem d33_0 : decode (q_code 33) 0 = .ok (.iload_n 0, 1) := by decide +kernel
theorem gR_kindOf_0 {Q : q_R} {M : q_M} {r : List Value} {a0 : Int32} : q_g 33 none Q 0 [some (.int a0)] (r) M = q_g 33 none Q 1 [some (.int a0)] (.int a0 :: r) M := r_iload_n rfl d33_0
theorem d33_1 : decode (q_code 33) 1 = .ok (.lookupswitch 71 #[(98, 61), (102, 65), (108, 63), (112, 69), (116, 59), (119, 67)], 59) := by decide +kernel
theorem gR_kindOf_1 {Q : q_R} {M : q_M} {r : List Value} {a0 : Int32} {s0 : Int32} : q_g 33 none Q 1 [some (.int a0)] (.int s0 :: r) M = (if s0 = 98 then q_g 33 none Q 62 [some (.int a0)] (r) M else if s0 = 102 then q_g 33 none Q 66 [some (.int a0)] (r) M else if s0 = 108 then q_g 33 none Q 64 [some (.int a0)] (r) M else if s0 = 112 then q_g 33 none Q 70 [some (.int a0)] (r) M else if s0 = 116 then q_g 33 none Q 60 [some (.int a0)] (r) M else if s0 = 119 then q_g 33 none Q 68 [some (.int a0)] (r) M else q_g 33 none Q 72 [some (.int a0)] (r) M) := by
  by_cases h0 : s0 = 98
  · rw [if_pos h0]
    subst h0
    exact r_lookup (off := 61) (by decide) (by decide) (by decide) (by decide) d33_1
  rw [if_neg h0]
  by_cases h1 : s0 = 102
  · rw [if_pos h1]
    subst h1
    exact r_lookup (off := 65) (by decide) (by decide) (by decide) (by decide) d33_1
  rw [if_neg h1]
  by_cases h2 : s0 = 108
  · rw [if_pos h2]
    subst h2
    exact r_lookup (off := 63) (by decide) (by decide) (by decide) (by decide) d33_1
  rw [if_neg h2]
  by_cases h3 : s0 = 112
  · rw [if_pos h3]
    subst h3
    exact r_lookup (off := 69) (by decide) (by decide) (by decide) (by decide) d33_1
  rw [if_neg h3]
  by_cases h4 : s0 = 116
  · rw [if_pos h4]
    subst h4
    exact r_lookup (off := 59) (by decide) (by decide) (by decide) (by decide) d33_1
  rw [if_neg h4]
  by_cases h5 : s0 = 119
  · rw [if_pos h5]
    subst h5
    exact r_lookup (off := 67) (by decide) (by decide) (by decide) (by decide) d33_1
  rw [if_neg h5]
  exact r_lookup (off := 71) (by decide) ((lv_osw h0 (by decide)).trans ((lv_osw h1 (by decide)).trans ((lv_osw h2 (by decide)).trans ((lv_osw h3 (by decide)).trans ((lv_osw h4 (by decide)).trans ((lv_osw h5 (by decide)).trans (rfl))))))) (by decide) (by decide) d33_1
theorem d33_60 : decode (q_code 33) 60 = .ok (.iconst 0, 1) := by decide +kernel
theorem gR_kindOf_60 {Q : q_R} {M : q_M} {r : List Value} {a0 : Int32} : q_g 33 none Q 60 [some (.int a0)] (r) M = q_g 33 none Q 61 [some (.int a0)] (.int 0 :: r) M := r_iconst (by decide) d33_60
theorem d33_61 : decode (q_code 33) 61 = .ok (.ireturn, 1) := by decide +kernel
theorem gR_kindOf_61 {Q : q_R} {M : q_M} {a0 : Int32} {s0 : Int32} : q_g 33 none Q 61 [some (.int a0)] ([.int s0]) M = Q (some (.int s0)) M := r_iret (r := []) (by decide +kernel) d33_61
theorem d33_62 : decode (q_code 33) 62 = .ok (.iconst 1, 1) := by decide +kernel
theorem gR_kindOf_62 {Q : q_R} {M : q_M} {r : List Value} {a0 : Int32} : q_g 33 none Q 62 [some (.int a0)] (r) M = q_g 33 none Q 63 [some (.int a0)] (.int 1 :: r) M := r_iconst (by decide) d33_62
theorem d33_63 : decode (q_code 33) 63 = .ok (.ireturn, 1) := by decide +kernel
theorem gR_kindOf_63 {Q : q_R} {M : q_M} {a0 : Int32} {s0 : Int32} : q_g 33 none Q 63 [some (.int a0)] ([.int s0]) M = Q (some (.int s0)) M := r_iret (r := []) (by decide +kernel) d33_63
theorem d33_64 : decode (q_code 33) 64 = .ok (.iconst 2, 1) := by decide +kernel
theorem gR_kindOf_64 {Q : q_R} {M : q_M} {r : List Value} {a0 : Int32} : q_g 33 none Q 64 [some (.int a0)] (r) M = q_g 33 none Q 65 [some (.int a0)] (.int 2 :: r) M := r_iconst (by decide) d33_64
theorem d33_65 : decode (q_code 33) 65 = .ok (.ireturn, 1) := by decide +kernel
theorem gR_kindOf_65 {Q : q_R} {M : q_M} {a0 : Int32} {s0 : Int32} : q_g 33 none Q 65 [some (.int a0)] ([.int s0]) M = Q (some (.int s0)) M := r_iret (r := []) (by decide +kernel) d33_65
theorem d33_66 : decode (q_code 33) 66 = .ok (.iconst 3, 1) := by decide +kernel
theorem gR_kindOf_66 {Q : q_R} {M : q_M} {r : List Value} {a0 : Int32} : q_g 33 none Q 66 [some (.int a0)] (r) M = q_g 33 none Q 67 [some (.int a0)] (.int 3 :: r) M := r_iconst (by decide) d33_66
theorem d33_67 : decode (q_code 33) 67 = .ok (.ireturn, 1) := by decide +kernel
theorem gR_kindOf_67 {Q : q_R} {M : q_M} {a0 : Int32} {s0 : Int32} : q_g 33 none Q 67 [some (.int a0)] ([.int s0]) M = Q (some (.int s0)) M := r_iret (r := []) (by decide +kernel) d33_67
theorem d33_68 : decode (q_code 33) 68 = .ok (.iconst 4, 1) := by decide +kernel
theorem gR_kindOf_68 {Q : q_R} {M : q_M} {r : List Value} {a0 : Int32} : q_g 33 none Q 68 [some (.int a0)] (r) M = q_g 33 none Q 69 [some (.int a0)] (.int 4 :: r) M := r_iconst (by decide) d33_68
theorem d33_69 : decode (q_code 33) 69 = .ok (.ireturn, 1) := by decide +kernel
theorem gR_kindOf_69 {Q : q_R} {M : q_M} {a0 : Int32} {s0 : Int32} : q_g 33 none Q 69 [some (.int a0)] ([.int s0]) M = Q (some (.int s0)) M := r_iret (r := []) (by decide +kernel) d33_69
theorem d33_70 : decode (q_code 33) 70 = .ok (.iconst 5, 1) := by decide +kernel
theorem gR_kindOf_70 {Q : q_R} {M : q_M} {r : List Value} {a0 : Int32} : q_g 33 none Q 70 [some (.int a0)] (r) M = q_g 33 none Q 71 [some (.int a0)] (.int 5 :: r) M := r_iconst (by decide) d33_70
theorem d33_71 : decode (q_code 33) 71 = .ok (.ireturn, 1) := by decide +kernel
theorem gR_kindOf_71 {Q : q_R} {M : q_M} {a0 : Int32} {s0 : Int32} : q_g 33 none Q 71 [some (.int a0)] ([.int s0]) M = Q (some (.int s0)) M := r_iret (r := []) (by decide +kernel) d33_71
theorem d33_72 : decode (q_code 33) 72 = .ok (.iconst (-1), 1) := by decide +kernel
theorem gR_kindOf_72 {Q : q_R} {M : q_M} {r : List Value} {a0 : Int32} : q_g 33 none Q 72 [some (.int a0)] (r) M = q_g 33 none Q 73 [some (.int a0)] (.int (-1) :: r) M := r_iconst (by decide) d33_72
theorem d33_73 : decode (q_code 33) 73 = .ok (.ireturn, 1) := by decide +kernel
theorem gR_kindOf_73 {Q : q_R} {M : q_M} {a0 : Int32} {s0 : Int32} : q_g 33 none Q 73 [some (.int a0)] ([.int s0]) M = Q (some (.int s0)) M := r_iret (r := []) (by decide +kernel) d33_73
theorem e_R_passes {Q : q_R} {M : q_M} {a0 : Nat} {a1 : Int32} : q_Run 34 [.ref a0, .int a1] M Q = q_g 34 none Q 0 [some (.ref a0), some (.int a1)] [] M := q_entry (Nat.le_of_ble_eq_true rfl) rfl
theorem d34_0 : decode (q_code 34) 0 = .ok (.aload_n 0, 1) := by decide +kernel
theorem gR_passes_0 {Q : q_R} {M : q_M} {r : List Value} {a0 : Nat} {a1 : Int32} : q_g 34 none Q 0 [some (.ref a0), some (.int a1)] (r) M = q_g 34 none Q 1 [some (.ref a0), some (.int a1)] (.ref a0 :: r) M := r_aload_n rfl d34_0
theorem d34_1 : decode (q_code 34) 1 = .ok (.invokevirtual 72, 3) := by decide +kernel
theorem gR_passes_1 {Q : q_R} {M : q_M} {a0 : Nat} {a1 : Int32} {s0 : Nat} : q_g 34 none Q 1 [some (.ref a0), some (.int a1)] ([.ref s0]) M = (q_isC 2 s0 = true ∧ q_Run 31 [.ref s0] M (fun v M' => q_g 34 none Q 4 [some (.ref a0), some (.int a1)] (v.toList ++ []) M')) := r_call_virtual (k := 1) (by decide +kernel) (by decide +kernel) (Nat.le_of_ble_eq_true rfl) (Nat.le_of_ble_eq_true rfl) rfl rfl d34_1
theorem d34_4 : decode (q_code 34) 4 = .ok (.iload_n 1, 1) := by decide +kernel
theorem gR_passes_4 {Q : q_R} {M : q_M} {r : List Value} {a0 : Nat} {a1 : Int32} : q_g 34 none Q 4 [some (.ref a0), some (.int a1)] (r) M = q_g 34 none Q 5 [some (.ref a0), some (.int a1)] (.int a1 :: r) M := r_iload_n rfl d34_4
theorem d34_5 : decode (q_code 34) 5 = .ok (.if_icmp .eq 5, 3) := by decide +kernel
theorem gR_passes_5 {Q : q_R} {M : q_M} {r : List Value} {a0 : Nat} {a1 : Int32} {s0 : Int32} {s1 : Int32} : q_g 34 none Q 5 [some (.ref a0), some (.int a1)] (.int s0 :: .int s1 :: r) M = (if s1 = s0 then q_g 34 none Q 10 [some (.ref a0), some (.int a1)] (r) M else q_g 34 none Q 8 [some (.ref a0), some (.int a1)] (r) M) := r_icmp_eq (by decide) (by decide) d34_5
theorem d34_8 : decode (q_code 34) 8 = .ok (.iconst 0, 1) := by decide +kernel
theorem gR_passes_8 {Q : q_R} {M : q_M} {r : List Value} {a0 : Nat} {a1 : Int32} : q_g 34 none Q 8 [some (.ref a0), some (.int a1)] (r) M = q_g 34 none Q 9 [some (.ref a0), some (.int a1)] (.int 0 :: r) M := r_iconst (by decide) d34_8
theorem d34_9 : decode (q_code 34) 9 = .ok (.ireturn, 1) := by decide +kernel
theorem gR_passes_9 {Q : q_R} {M : q_M} {a0 : Nat} {a1 : Int32} {s0 : Int32} : q_g 34 none Q 9 [some (.ref a0), some (.int a1)] ([.int s0]) M = ((s0 = 0 ∨ s0 = 1) ∧ Q (some (.int s0)) M) := r_zret (r := []) (by decide +kernel) d34_9
theorem d34_10 : decode (q_code 34) 10 = .ok (.aload_n 0, 1) := by decide +kernel
theorem gR_passes_10 {Q : q_R} {M : q_M} {r : List Value} {a0 : Nat} {a1 : Int32} : q_g 34 none Q 10 [some (.ref a0), some (.int a1)] (r) M = q_g 34 none Q 11 [some (.ref a0), some (.int a1)] (.ref a0 :: r) M := r_aload_n rfl d34_10
theorem d34_11 : decode (q_code 34) 11 = .ok (.dup, 1) := by decide +kernel
theorem gR_passes_11 {Q : q_R} {M : q_M} {r : List Value} {a0 : Nat} {a1 : Int32} {s0 : Nat} : q_g 34 none Q 11 [some (.ref a0), some (.int a1)] (.ref s0 :: r) M = q_g 34 none Q 12 [some (.ref a0), some (.int a1)] (.ref s0 :: .ref s0 :: r) M := r_dup rfl d34_11
theorem d34_12 : decode (q_code 34) 12 = .ok (.getfield 25, 3) := by decide +kernel
theorem gR_passes_12 {Q : q_R} {M : q_M} {r : List Value} {a0 : Nat} {a1 : Int32} {s0 : Nat} : q_g 34 none Q 12 [some (.ref a0), some (.int a1)] (.ref s0 :: r) M = (q_isC 2 s0 = true ∧ q_g 34 none Q 15 [some (.ref a0), some (.int a1)] (.int (M s0 2) :: r) M) := r_getI (by decide +kernel) (by decide +kernel) d34_12
theorem d34_15 : decode (q_code 34) 15 = .ok (.iconst 1, 1) := by decide +kernel
theorem gR_passes_15 {Q : q_R} {M : q_M} {r : List Value} {a0 : Nat} {a1 : Int32} : q_g 34 none Q 15 [some (.ref a0), some (.int a1)] (r) M = q_g 34 none Q 16 [some (.ref a0), some (.int a1)] (.int 1 :: r) M := r_iconst (by decide) d34_15
theorem d34_16 : decode (q_code 34) 16 = .ok (.iadd, 1) := by decide +kernel
theorem gR_passes_16 {Q : q_R} {M : q_M} {r : List Value} {a0 : Nat} {a1 : Int32} {s0 : Int32} {s1 : Int32} : q_g 34 none Q 16 [some (.ref a0), some (.int a1)] (.int s0 :: .int s1 :: r) M = q_g 34 none Q 17 [some (.ref a0), some (.int a1)] (.int (s1 + s0) :: r) M := r_iadd d34_16
theorem d34_17 : decode (q_code 34) 17 = .ok (.putfield 25, 3) := by decide +kernel
theorem gR_passes_17 {Q : q_R} {M : q_M} {r : List Value} {a0 : Nat} {a1 : Int32} {s0 : Int32} {s1 : Nat} : q_g 34 none Q 17 [some (.ref a0), some (.int a1)] (.int s0 :: .ref s1 :: r) M = (q_isC 2 s1 = true ∧ q_g 34 none Q 20 [some (.ref a0), some (.int a1)] (r) (q_put M s1 2 s0)) := r_putI (by decide +kernel) (by decide +kernel) (by decide +kernel) d34_17
theorem d34_20 : decode (q_code 34) 20 = .ok (.iconst 1, 1) := by decide +kernel
theorem gR_passes_20 {Q : q_R} {M : q_M} {r : List Value} {a0 : Nat} {a1 : Int32} : q_g 34 none Q 20 [some (.ref a0), some (.int a1)] (r) M = q_g 34 none Q 21 [some (.ref a0), some (.int a1)] (.int 1 :: r) M := r_iconst (by decide) d34_20
theorem d34_21 : decode (q_code 34) 21 = .ok (.ireturn, 1) := by decide +kernel
theorem gR_passes_21 {Q : q_R} {M : q_M} {a0 : Nat} {a1 : Int32} {s0 : Int32} : q_g 34 none Q 21 [some (.ref a0), some (.int a1)] ([.int s0]) M = ((s0 = 0 ∨ s0 = 1) ∧ Q (some (.int s0)) M) := r_zret (r := []) (by decide +kernel) d34_21
theorem e_R_readDigit {Q : q_R} {M : q_M} {a0 : Nat} : q_Run 35 [.ref a0] M Q = q_g 35 none Q 0 [some (.ref a0), none] [] M := q_entry (Nat.le_of_ble_eq_true rfl) rfl
theorem d35_0 : decode (q_code 35) 0 = .ok (.aload_n 0, 1) := by decide +kernel
theorem gR_readDigit_0 {Q : q_R} {M : q_M} {r : List Value} {a0 : Nat} {a1 : Option Value} : q_g 35 none Q 0 [some (.ref a0), a1] (r) M = q_g 35 none Q 1 [some (.ref a0), a1] (.ref a0 :: r) M := r_aload_n rfl d35_0
theorem d35_1 : decode (q_code 35) 1 = .ok (.invokevirtual 72, 3) := by decide +kernel
theorem gR_readDigit_1 {Q : q_R} {M : q_M} {a0 : Nat} {a1 : Option Value} {s0 : Nat} : q_g 35 none Q 1 [some (.ref a0), a1] ([.ref s0]) M = (q_isC 2 s0 = true ∧ q_Run 31 [.ref s0] M (fun v M' => q_g 35 none Q 4 [some (.ref a0), a1] (v.toList ++ []) M')) := r_call_virtual (k := 1) (by decide +kernel) (by decide +kernel) (Nat.le_of_ble_eq_true rfl) (Nat.le_of_ble_eq_true rfl) rfl rfl d35_1
theorem d35_4 : decode (q_code 35) 4 = .ok (.istore_n 1, 1) := by decide +kernel
theorem gR_readDigit_4 {Q : q_R} {M : q_M} {r : List Value} {a0 : Nat} {a1 : Option Value} {s0 : Int32} : q_g 35 none Q 4 [some (.ref a0), a1] (.int s0 :: r) M = q_g 35 none Q 5 [some (.ref a0), some (.int s0)] (r) M := r_istore_n (Nat.le_of_ble_eq_true rfl) d35_4
theorem d35_5 : decode (q_code 35) 5 = .ok (.iload_n 1, 1) := by decide +kernel
theorem gR_readDigit_5 {Q : q_R} {M : q_M} {r : List Value} {a0 : Nat} {a1 : Int32} : q_g 35 none Q 5 [some (.ref a0), some (.int a1)] (r) M = q_g 35 none Q 6 [some (.ref a0), some (.int a1)] (.int a1 :: r) M := r_iload_n rfl d35_5
theorem d35_6 : decode (q_code 35) 6 = .ok (.bipush 48, 2) := by decide +kernel
theorem gR_readDigit_6 {Q : q_R} {M : q_M} {r : List Value} {a0 : Nat} {a1 : Int32} : q_g 35 none Q 6 [some (.ref a0), some (.int a1)] (r) M = q_g 35 none Q 8 [some (.ref a0), some (.int a1)] (.int 48 :: r) M := r_bipush (by decide) d35_6
theorem d35_8 : decode (q_code 35) 8 = .ok (.if_icmp .lt 9, 3) := by decide +kernel
theorem gR_readDigit_8 {Q : q_R} {M : q_M} {r : List Value} {a0 : Nat} {a1 : Int32} {s0 : Int32} {s1 : Int32} : q_g 35 none Q 8 [some (.ref a0), some (.int a1)] (.int s0 :: .int s1 :: r) M = (if s1 < s0 then q_g 35 none Q 17 [some (.ref a0), some (.int a1)] (r) M else q_g 35 none Q 11 [some (.ref a0), some (.int a1)] (r) M) := r_icmp_lt (by decide) (by decide) d35_8
theorem d35_11 : decode (q_code 35) 11 = .ok (.iload_n 1, 1) := by decide +kernel
theorem gR_readDigit_11 {Q : q_R} {M : q_M} {r : List Value} {a0 : Nat} {a1 : Int32} : q_g 35 none Q 11 [some (.ref a0), some (.int a1)] (r) M = q_g 35 none Q 12 [some (.ref a0), some (.int a1)] (.int a1 :: r) M := r_iload_n rfl d35_11
theorem d35_12 : decode (q_code 35) 12 = .ok (.bipush 57, 2) := by decide +kernel
theorem gR_readDigit_12 {Q : q_R} {M : q_M} {r : List Value} {a0 : Nat} {a1 : Int32} : q_g 35 none Q 12 [some (.ref a0), some (.int a1)] (r) M = q_g 35 none Q 14 [some (.ref a0), some (.int a1)] (.int 57 :: r) M := r_bipush (by decide) d35_12
theorem d35_14 : decode (q_code 35) 14 = .ok (.if_icmp .le 5, 3) := by decide +kernel
theorem gR_readDigit_14 {Q : q_R} {M : q_M} {r : List Value} {a0 : Nat} {a1 : Int32} {s0 : Int32} {s1 : Int32} : q_g 35 none Q 14 [some (.ref a0), some (.int a1)] (.int s0 :: .int s1 :: r) M = (if s1 ≤ s0 then q_g 35 none Q 19 [some (.ref a0), some (.int a1)] (r) M else q_g 35 none Q 17 [some (.ref a0), some (.int a1)] (r) M) := r_icmp_le (by decide) (by decide) d35_14
theorem d35_17 : decode (q_code 35) 17 = .ok (.iconst (-1), 1) := by decide +kernel
theorem gR_readDigit_17 {Q : q_R} {M : q_M} {r : List Value} {a0 : Nat} {a1 : Int32} : q_g 35 none Q 17 [some (.ref a0), some (.int a1)] (r) M = q_g 35 none Q 18 [some (.ref a0), some (.int a1)] (.int (-1) :: r) M := r_iconst (by decide) d35_17
theorem d35_18 : decode (q_code 35) 18 = .ok (.ireturn, 1) := by decide +kernel
theorem gR_readDigit_18 {Q : q_R} {M : q_M} {a0 : Nat} {a1 : Int32} {s0 : Int32} : q_g 35 none Q 18 [some (.ref a0), some (.int a1)] ([.int s0]) M = Q (some (.int s0)) M := r_iret (r := []) (by decide +kernel) d35_18
theorem d35_19 : decode (q_code 35) 19 = .ok (.aload_n 0, 1) := by decide +kernel
theorem gR_readDigit_19 {Q : q_R} {M : q_M} {r : List Value} {a0 : Nat} {a1 : Int32} : q_g 35 none Q 19 [some (.ref a0), some (.int a1)] (r) M = q_g 35 none Q 20 [some (.ref a0), some (.int a1)] (.ref a0 :: r) M := r_aload_n rfl d35_19
theorem d35_20 : decode (q_code 35) 20 = .ok (.dup, 1) := by decide +kernel
theorem gR_readDigit_20 {Q : q_R} {M : q_M} {r : List Value} {a0 : Nat} {a1 : Int32} {s0 : Nat} : q_g 35 none Q 20 [some (.ref a0), some (.int a1)] (.ref s0 :: r) M = q_g 35 none Q 21 [some (.ref a0), some (.int a1)] (.ref s0 :: .ref s0 :: r) M := r_dup rfl d35_20
theorem d35_21 : decode (q_code 35) 21 = .ok (.getfield 25, 3) := by decide +kernel
theorem gR_readDigit_21 {Q : q_R} {M : q_M} {r : List Value} {a0 : Nat} {a1 : Int32} {s0 : Nat} : q_g 35 none Q 21 [some (.ref a0), some (.int a1)] (.ref s0 :: r) M = (q_isC 2 s0 = true ∧ q_g 35 none Q 24 [some (.ref a0), some (.int a1)] (.int (M s0 2) :: r) M) := r_getI (by decide +kernel) (by decide +kernel) d35_21
theorem d35_24 : decode (q_code 35) 24 = .ok (.iconst 1, 1) := by decide +kernel
theorem gR_readDigit_24 {Q : q_R} {M : q_M} {r : List Value} {a0 : Nat} {a1 : Int32} : q_g 35 none Q 24 [some (.ref a0), some (.int a1)] (r) M = q_g 35 none Q 25 [some (.ref a0), some (.int a1)] (.int 1 :: r) M := r_iconst (by decide) d35_24
theorem d35_25 : decode (q_code 35) 25 = .ok (.iadd, 1) := by decide +kernel
theorem gR_readDigit_25 {Q : q_R} {M : q_M} {r : List Value} {a0 : Nat} {a1 : Int32} {s0 : Int32} {s1 : Int32} : q_g 35 none Q 25 [some (.ref a0), some (.int a1)] (.int s0 :: .int s1 :: r) M = q_g 35 none Q 26 [some (.ref a0), some (.int a1)] (.int (s1 + s0) :: r) M := r_iadd d35_25
theorem d35_26 : decode (q_code 35) 26 = .ok (.putfield 25, 3) := by decide +kernel
theorem gR_readDigit_26 {Q : q_R} {M : q_M} {r : List Value} {a0 : Nat} {a1 : Int32} {s0 : Int32} {s1 : Nat} : q_g 35 none Q 26 [some (.ref a0), some (.int a1)] (.int s0 :: .ref s1 :: r) M = (q_isC 2 s1 = true ∧ q_g 35 none Q 29 [some (.ref a0), some (.int a1)] (r) (q_put M s1 2 s0)) := r_putI (by decide +kernel) (by decide +kernel) (by decide +kernel) d35_26
theorem d35_29 : decode (q_code 35) 29 = .ok (.iload_n 1, 1) := by decide +kernel
theorem gR_readDigit_29 {Q : q_R} {M : q_M} {r : List Value} {a0 : Nat} {a1 : Int32} : q_g 35 none Q 29 [some (.ref a0), some (.int a1)] (r) M = q_g 35 none Q 30 [some (.ref a0), some (.int a1)] (.int a1 :: r) M := r_iload_n rfl d35_29
theorem d35_30 : decode (q_code 35) 30 = .ok (.bipush 48, 2) := by decide +kernel
theorem gR_readDigit_30 {Q : q_R} {M : q_M} {r : List Value} {a0 : Nat} {a1 : Int32} : q_g 35 none Q 30 [some (.ref a0), some (.int a1)] (r) M = q_g 35 none Q 32 [some (.ref a0), some (.int a1)] (.int 48 :: r) M := r_bipush (by decide) d35_30
theorem d35_32 : decode (q_code 35) 32 = .ok (.isub, 1) := by decide +kernel
theorem gR_readDigit_32 {Q : q_R} {M : q_M} {r : List Value} {a0 : Nat} {a1 : Int32} {s0 : Int32} {s1 : Int32} : q_g 35 none Q 32 [some (.ref a0), some (.int a1)] (.int s0 :: .int s1 :: r) M = q_g 35 none Q 33 [some (.ref a0), some (.int a1)] (.int (s1 - s0) :: r) M := r_isub d35_32
theorem d35_33 : decode (q_code 35) 33 = .ok (.ireturn, 1) := by decide +kernel
theorem gR_readDigit_33 {Q : q_R} {M : q_M} {a0 : Nat} {a1 : Int32} {s0 : Int32} : q_g 35 none Q 33 [some (.ref a0), some (.int a1)] ([.int s0]) M = Q (some (.int s0)) M := r_iret (r := []) (by decide +kernel) d35_33
theorem e_R_readFirst {Q : q_R} {M : q_M} {a0 : Nat} : q_Run 36 [.ref a0] M Q = q_g 36 none Q 0 [some (.ref a0)] [] M := q_entry (Nat.le_of_ble_eq_true rfl) rfl
theorem d36_0 : decode (q_code 36) 0 = .ok (.aload_n 0, 1) := by decide +kernel
theorem gR_readFirst_0 {Q : q_R} {M : q_M} {r : List Value} {a0 : Nat} : q_g 36 none Q 0 [some (.ref a0)] (r) M = q_g 36 none Q 1 [some (.ref a0)] (.ref a0 :: r) M := r_aload_n rfl d36_0
theorem d36_1 : decode (q_code 36) 1 = .ok (.aload_n 0, 1) := by decide +kernel
theorem gR_readFirst_1 {Q : q_R} {M : q_M} {r : List Value} {a0 : Nat} : q_g 36 none Q 1 [some (.ref a0)] (r) M = q_g 36 none Q 2 [some (.ref a0)] (.ref a0 :: r) M := r_aload_n rfl d36_1
theorem d36_2 : decode (q_code 36) 2 = .ok (.invokevirtual 94, 3) := by decide +kernel
theorem gR_readFirst_2 {Q : q_R} {M : q_M} {a0 : Nat} {s0 : Nat} {s1 : Nat} : q_g 36 none Q 2 [some (.ref a0)] ([.ref s0, .ref s1]) M = (q_isC 2 s0 = true ∧ q_Run 35 [.ref s0] M (fun v M' => q_g 36 none Q 5 [some (.ref a0)] (v.toList ++ [.ref s1]) M')) := r_call_virtual (k := 1) (by decide +kernel) (by decide +kernel) (Nat.le_of_ble_eq_true rfl) (Nat.le_of_ble_eq_true rfl) rfl rfl d36_2
theorem d36_5 : decode (q_code 36) 5 = .ok (.putfield 42, 3) := by decide +kernel
theorem gR_readFirst_5 {Q : q_R} {M : q_M} {r : List Value} {a0 : Nat} {s0 : Int32} {s1 : Nat} : q_g 36 none Q 5 [some (.ref a0)] (.int s0 :: .ref s1 :: r) M = (q_isC 2 s1 = true ∧ q_g 36 none Q 8 [some (.ref a0)] (r) (q_put M s1 5 s0)) := r_putI (by decide +kernel) (by decide +kernel) (by decide +kernel) d36_5
theorem d36_8 : decode (q_code 36) 8 = .ok (.aload_n 0, 1) := by decide +kernel
theorem gR_readFirst_8 {Q : q_R} {M : q_M} {r : List Value} {a0 : Nat} : q_g 36 none Q 8 [some (.ref a0)] (r) M = q_g 36 none Q 9 [some (.ref a0)] (.ref a0 :: r) M := r_aload_n rfl d36_8
theorem d36_9 : decode (q_code 36) 9 = .ok (.getfield 42, 3) := by decide +kernel
theorem gR_readFirst_9 {Q : q_R} {M : q_M} {r : List Value} {a0 : Nat} {s0 : Nat} : q_g 36 none Q 9 [some (.ref a0)] (.ref s0 :: r) M = (q_isC 2 s0 = true ∧ q_g 36 none Q 12 [some (.ref a0)] (.int (M s0 5) :: r) M) := r_getI (by decide +kernel) (by decide +kernel) d36_9
theorem d36_12 : decode (q_code 36) 12 = .ok (.ifCond .lt 7, 3) := by decide +kernel
theorem gR_readFirst_12 {Q : q_R} {M : q_M} {r : List Value} {a0 : Nat} {s0 : Int32} : q_g 36 none Q 12 [some (.ref a0)] (.int s0 :: r) M = (if s0 < 0 then q_g 36 none Q 19 [some (.ref a0)] (r) M else q_g 36 none Q 15 [some (.ref a0)] (r) M) := r_if_lt (by decide) (by decide) d36_12
theorem d36_15 : decode (q_code 36) 15 = .ok (.iconst 1, 1) := by decide +kernel
theorem gR_readFirst_15 {Q : q_R} {M : q_M} {r : List Value} {a0 : Nat} : q_g 36 none Q 15 [some (.ref a0)] (r) M = q_g 36 none Q 16 [some (.ref a0)] (.int 1 :: r) M := r_iconst (by decide) d36_15
theorem d36_16 : decode (q_code 36) 16 = .ok (.goto 4, 3) := by decide +kernel
theorem gR_readFirst_16 {Q : q_R} {M : q_M} {r : List Value} {a0 : Nat} : q_g 36 none Q 16 [some (.ref a0)] (r) M = q_g 36 none Q 20 [some (.ref a0)] (r) M := r_goto (by decide) (by decide) d36_16
theorem d36_19 : decode (q_code 36) 19 = .ok (.iconst 0, 1) := by decide +kernel
theorem gR_readFirst_19 {Q : q_R} {M : q_M} {r : List Value} {a0 : Nat} : q_g 36 none Q 19 [some (.ref a0)] (r) M = q_g 36 none Q 20 [some (.ref a0)] (.int 0 :: r) M := r_iconst (by decide) d36_19
theorem d36_20 : decode (q_code 36) 20 = .ok (.ireturn, 1) := by decide +kernel
theorem gR_readFirst_20 {Q : q_R} {M : q_M} {a0 : Nat} {s0 : Int32} : q_g 36 none Q 20 [some (.ref a0)] ([.int s0]) M = ((s0 = 0 ∨ s0 = 1) ∧ Q (some (.int s0)) M) := r_zret (r := []) (by decide +kernel) d36_20
theorem e_R_readNumber {Q : q_R} {M : q_M} {a0 : Nat} : q_Run 37 [.ref a0] M Q = q_g 37 none Q 0 [some (.ref a0), none, none] [] M := q_entry (Nat.le_of_ble_eq_true rfl) rfl
theorem d37_0 : decode (q_code 37) 0 = .ok (.aload_n 0, 1) := by decide +kernel
theorem gR_readNumber_0 {Q : q_R} {M : q_M} {r : List Value} {a0 : Nat} {a1 : Option Value} {a2 : Option Value} : q_g 37 none Q 0 [some (.ref a0), a1, a2] (r) M = q_g 37 none Q 1 [some (.ref a0), a1, a2] (.ref a0 :: r) M := r_aload_n rfl d37_0
theorem d37_1 : decode (q_code 37) 1 = .ok (.invokevirtual 94, 3) := by decide +kernel
theorem gR_readNumber_1 {Q : q_R} {M : q_M} {a0 : Nat} {a1 : Option Value} {a2 : Option Value} {s0 : Nat} : q_g 37 none Q 1 [some (.ref a0), a1, a2] ([.ref s0]) M = (q_isC 2 s0 = true ∧ q_Run 35 [.ref s0] M (fun v M' => q_g 37 none Q 4 [some (.ref a0), a1, a2] (v.toList ++ []) M')) := r_call_virtual (k := 1) (by decide +kernel) (by decide +kernel) (Nat.le_of_ble_eq_true rfl) (Nat.le_of_ble_eq_true rfl) rfl rfl d37_1
theorem d37_4 : decode (q_code 37) 4 = .ok (.istore_n 1, 1) := by decide +kernel
theorem gR_readNumber_4 {Q : q_R} {M : q_M} {r : List Value} {a0 : Nat} {a1 : Option Value} {a2 : Option Value} {s0 : Int32} : q_g 37 none Q 4 [some (.ref a0), a1, a2] (.int s0 :: r) M = q_g 37 none Q 5 [some (.ref a0), some (.int s0), a2] (r) M := r_istore_n (Nat.le_of_ble_eq_true rfl) d37_4
theorem d37_5 : decode (q_code 37) 5 = .ok (.iload_n 1, 1) := by decide +kernel
theorem gR_readNumber_5 {Q : q_R} {M : q_M} {r : List Value} {a0 : Nat} {a1 : Int32} {a2 : Option Value} : q_g 37 none Q 5 [some (.ref a0), some (.int a1), a2] (r) M = q_g 37 none Q 6 [some (.ref a0), some (.int a1), a2] (.int a1 :: r) M := r_iload_n rfl d37_5
theorem d37_6 : decode (q_code 37) 6 = .ok (.ifCond .ge 5, 3) := by decide +kernel
theorem gR_readNumber_6 {Q : q_R} {M : q_M} {r : List Value} {a0 : Nat} {a1 : Int32} {a2 : Option Value} {s0 : Int32} : q_g 37 none Q 6 [some (.ref a0), some (.int a1), a2] (.int s0 :: r) M = (if 0 ≤ s0 then q_g 37 none Q 11 [some (.ref a0), some (.int a1), a2] (r) M else q_g 37 none Q 9 [some (.ref a0), some (.int a1), a2] (r) M) := r_if_ge (by decide) (by decide) d37_6
theorem d37_9 : decode (q_code 37) 9 = .ok (.iconst (-1), 1) := by decide +kernel
theorem gR_readNumber_9 {Q : q_R} {M : q_M} {r : List Value} {a0 : Nat} {a1 : Int32} {a2 : Option Value} : q_g 37 none Q 9 [some (.ref a0), some (.int a1), a2] (r) M = q_g 37 none Q 10 [some (.ref a0), some (.int a1), a2] (.int (-1) :: r) M := r_iconst (by decide) d37_9
theorem d37_10 : decode (q_code 37) 10 = .ok (.ireturn, 1) := by decide +kernel
theorem gR_readNumber_10 {Q : q_R} {M : q_M} {a0 : Nat} {a1 : Int32} {a2 : Option Value} {s0 : Int32} : q_g 37 none Q 10 [some (.ref a0), some (.int a1), a2] ([.int s0]) M = Q (some (.int s0)) M := r_iret (r := []) (by decide +kernel) d37_10
theorem d37_11 : decode (q_code 37) 11 = .ok (.aload_n 0, 1) := by decide +kernel
theorem gR_readNumber_11 {Q : q_R} {M : q_M} {r : List Value} {a0 : Nat} {a1 : Int32} {a2 : Option Value} : q_g 37 none Q 11 [some (.ref a0), some (.int a1), a2] (r) M = q_g 37 none Q 12 [some (.ref a0), some (.int a1), a2] (.ref a0 :: r) M := r_aload_n rfl d37_11
theorem d37_12 : decode (q_code 37) 12 = .ok (.invokevirtual 94, 3) := by decide +kernel
theorem gR_readNumber_12 {Q : q_R} {M : q_M} {a0 : Nat} {a1 : Int32} {a2 : Option Value} {s0 : Nat} : q_g 37 none Q 12 [some (.ref a0), some (.int a1), a2] ([.ref s0]) M = (q_isC 2 s0 = true ∧ q_Run 35 [.ref s0] M (fun v M' => q_g 37 none Q 15 [some (.ref a0), some (.int a1), a2] (v.toList ++ []) M')) := r_call_virtual (k := 1) (by decide +kernel) (by decide +kernel) (Nat.le_of_ble_eq_true rfl) (Nat.le_of_ble_eq_true rfl) rfl rfl d37_12
theorem d37_15 : decode (q_code 37) 15 = .ok (.istore_n 2, 1) := by decide +kernel
theorem gR_readNumber_15 {Q : q_R} {M : q_M} {r : List Value} {a0 : Nat} {a1 : Int32} {a2 : Option Value} {s0 : Int32} : q_g 37 none Q 15 [some (.ref a0), some (.int a1), a2] (.int s0 :: r) M = q_g 37 none Q 16 [some (.ref a0), some (.int a1), some (.int s0)] (r) M := r_istore_n (Nat.le_of_ble_eq_true rfl) d37_15
theorem d37_16 : decode (q_code 37) 16 = .ok (.iload_n 2, 1) := by decide +kernel
theorem gR_readNumber_16 {Q : q_R} {M : q_M} {r : List Value} {a0 : Nat} {a1 : Int32} {a2 : Int32} : q_g 37 none Q 16 [some (.ref a0), some (.int a1), some (.int a2)] (r) M = q_g 37 none Q 17 [some (.ref a0), some (.int a1), some (.int a2)] (.int a2 :: r) M := r_iload_n rfl d37_16
theorem d37_17 : decode (q_code 37) 17 = .ok (.ifCond .ge 7, 3) := by decide +kernel
theorem gR_readNumber_17 {Q : q_R} {M : q_M} {r : List Value} {a0 : Nat} {a1 : Int32} {a2 : Int32} {s0 : Int32} : q_g 37 none Q 17 [some (.ref a0), some (.int a1), some (.int a2)] (.int s0 :: r) M = (if 0 ≤ s0 then q_g 37 none Q 24 [some (.ref a0), some (.int a1), some (.int a2)] (r) M else q_g 37 none Q 20 [some (.ref a0), some (.int a1), some (.int a2)] (r) M) := r_if_ge (by decide) (by decide) d37_17
theorem d37_20 : decode (q_code 37) 20 = .ok (.iload_n 1, 1) := by decide +kernel
theorem gR_readNumber_20 {Q : q_R} {M : q_M} {r : List Value} {a0 : Nat} {a1 : Int32} {a2 : Int32} : q_g 37 none Q 20 [some (.ref a0), some (.int a1), some (.int a2)] (r) M = q_g 37 none Q 21 [some (.ref a0), some (.int a1), some (.int a2)] (.int a1 :: r) M := r_iload_n rfl d37_20
theorem d37_21 : decode (q_code 37) 21 = .ok (.goto 9, 3) := by decide +kernel
theorem gR_readNumber_21 {Q : q_R} {M : q_M} {r : List Value} {a0 : Nat} {a1 : Int32} {a2 : Int32} : q_g 37 none Q 21 [some (.ref a0), some (.int a1), some (.int a2)] (r) M = q_g 37 none Q 30 [some (.ref a0), some (.int a1), some (.int a2)] (r) M := r_goto (by decide) (by decide) d37_21
theorem d37_24 : decode (q_code 37) 24 = .ok (.iload_n 1, 1) := by decide +kernel
theorem gR_readNumber_24 {Q : q_R} {M : q_M} {r : List Value} {a0 : Nat} {a1 : Int32} {a2 : Int32} : q_g 37 none Q 24 [some (.ref a0), some (.int a1), some (.int a2)] (r) M = q_g 37 none Q 25 [some (.ref a0), some (.int a1), some (.int a2)] (.int a1 :: r) M := r_iload_n rfl d37_24
theorem d37_25 : decode (q_code 37) 25 = .ok (.bipush 10, 2) := by decide +kernel
theorem gR_readNumber_25 {Q : q_R} {M : q_M} {r : List Value} {a0 : Nat} {a1 : Int32} {a2 : Int32} : q_g 37 none Q 25 [some (.ref a0), some (.int a1), some (.int a2)] (r) M = q_g 37 none Q 27 [some (.ref a0), some (.int a1), some (.int a2)] (.int 10 :: r) M := r_bipush (by decide) d37_25
theorem d37_27 : decode (q_code 37) 27 = .ok (.imul, 1) := by decide +kernel
theorem gR_readNumber_27 {Q : q_R} {M : q_M} {r : List Value} {a0 : Nat} {a1 : Int32} {a2 : Int32} {s0 : Int32} {s1 : Int32} : q_g 37 none Q 27 [some (.ref a0), some (.int a1), some (.int a2)] (.int s0 :: .int s1 :: r) M = q_g 37 none Q 28 [some (.ref a0), some (.int a1), some (.int a2)] (.int (s1 * s0) :: r) M := r_imul d37_27
theorem d37_28 : decode (q_code 37) 28 = .ok (.iload_n 2, 1) := by decide +kernel
theorem gR_readNumber_28 {Q : q_R} {M : q_M} {r : List Value} {a0 : Nat} {a1 : Int32} {a2 : Int32} : q_g 37 none Q 28 [some (.ref a0), some (.int a1), some (.int a2)] (r) M = q_g 37 none Q 29 [some (.ref a0), some (.int a1), some (.int a2)] (.int a2 :: r) M := r_iload_n rfl d37_28
theorem d37_29 : decode (q_code 37) 29 = .ok (.iadd, 1) := by decide +kernel
theorem gR_readNumber_29 {Q : q_R} {M : q_M} {r : List Value} {a0 : Nat} {a1 : Int32} {a2 : Int32} {s0 : Int32} {s1 : Int32} : q_g 37 none Q 29 [some (.ref a0), some (.int a1), some (.int a2)] (.int s0 :: .int s1 :: r) M = q_g 37 none Q 30 [some (.ref a0), some (.int a1), some (.int a2)] (.int (s1 + s0) :: r) M := r_iadd d37_29
theorem d37_30 : decode (q_code 37) 30 = .ok (.ireturn, 1) := by decide +kernel
theorem gR_readNumber_30 {Q : q_R} {M : q_M} {a0 : Nat} {a1 : Int32} {a2 : Int32} {s0 : Int32} : q_g 37 none Q 30 [some (.ref a0), some (.int a1), some (.int a2)] ([.int s0]) M = Q (some (.int s0)) M := r_iret (r := []) (by decide +kernel) d37_30
theorem e_R_readSecond {Q : q_R} {M : q_M} {a0 : Nat} : q_Run 38 [.ref a0] M Q = q_g 38 none Q 0 [some (.ref a0)] [] M := q_entry (Nat.le_of_ble_eq_true rfl) rfl
theorem d38_0 : decode (q_code 38) 0 = .ok (.aload_n 0, 1) := by decide +kernel
theorem gR_readSecond_0 {Q : q_R} {M : q_M} {r : List Value} {a0 : Nat} : q_g 38 none Q 0 [some (.ref a0)] (r) M = q_g 38 none Q 1 [some (.ref a0)] (.ref a0 :: r) M := r_aload_n rfl d38_0
theorem d38_1 : decode (q_code 38) 1 = .ok (.aload_n 0, 1) := by decide +kernel
theorem gR_readSecond_1 {Q : q_R} {M : q_M} {r : List Value} {a0 : Nat} : q_g 38 none Q 1 [some (.ref a0)] (r) M = q_g 38 none Q 2 [some (.ref a0)] (.ref a0 :: r) M := r_aload_n rfl d38_1
theorem d38_2 : decode (q_code 38) 2 = .ok (.invokevirtual 94, 3) := by decide +kernel
theorem gR_readSecond_2 {Q : q_R} {M : q_M} {a0 : Nat} {s0 : Nat} {s1 : Nat} : q_g 38 none Q 2 [some (.ref a0)] ([.ref s0, .ref s1]) M = (q_isC 2 s0 = true ∧ q_Run 35 [.ref s0] M (fun v M' => q_g 38 none Q 5 [some (.ref a0)] (v.toList ++ [.ref s1]) M')) := r_call_virtual (k := 1) (by decide +kernel) (by decide +kernel) (Nat.le_of_ble_eq_true rfl) (Nat.le_of_ble_eq_true rfl) rfl rfl d38_2
theorem d38_5 : decode (q_code 38) 5 = .ok (.putfield 45, 3) := by decide +kernel
theorem gR_readSecond_5 {Q : q_R} {M : q_M} {r : List Value} {a0 : Nat} {s0 : Int32} {s1 : Nat} : q_g 38 none Q 5 [some (.ref a0)] (.int s0 :: .ref s1 :: r) M = (q_isC 2 s1 = true ∧ q_g 38 none Q 8 [some (.ref a0)] (r) (q_put M s1 6 s0)) := r_putI (by decide +kernel) (by decide +kernel) (by decide +kernel) d38_5
theorem d38_8 : decode (q_code 38) 8 = .ok (.aload_n 0, 1) := by decide +kernel
theorem gR_readSecond_8 {Q : q_R} {M : q_M} {r : List Value} {a0 : Nat} : q_g 38 none Q 8 [some (.ref a0)] (r) M = q_g 38 none Q 9 [some (.ref a0)] (.ref a0 :: r) M := r_aload_n rfl d38_8
theorem d38_9 : decode (q_code 38) 9 = .ok (.getfield 45, 3) := by decide +kernel
theorem gR_readSecond_9 {Q : q_R} {M : q_M} {r : List Value} {a0 : Nat} {s0 : Nat} : q_g 38 none Q 9 [some (.ref a0)] (.ref s0 :: r) M = (q_isC 2 s0 = true ∧ q_g 38 none Q 12 [some (.ref a0)] (.int (M s0 6) :: r) M) := r_getI (by decide +kernel) (by decide +kernel) d38_9
theorem d38_12 : decode (q_code 38) 12 = .ok (.ifCond .lt 7, 3) := by decide +kernel
theorem gR_readSecond_12 {Q : q_R} {M : q_M} {r : List Value} {a0 : Nat} {s0 : Int32} : q_g 38 none Q 12 [some (.ref a0)] (.int s0 :: r) M = (if s0 < 0 then q_g 38 none Q 19 [some (.ref a0)] (r) M else q_g 38 none Q 15 [some (.ref a0)] (r) M) := r_if_lt (by decide) (by decide) d38_12
theorem d38_15 : decode (q_code 38) 15 = .ok (.iconst 1, 1) := by decide +kernel
theorem gR_readSecond_15 {Q : q_R} {M : q_M} {r : List Value} {a0 : Nat} : q_g 38 none Q 15 [some (.ref a0)] (r) M = q_g 38 none Q 16 [some (.ref a0)] (.int 1 :: r) M := r_iconst (by decide) d38_15
theorem d38_16 : decode (q_code 38) 16 = .ok (.goto 4, 3) := by decide +kernel
theorem gR_readSecond_16 {Q : q_R} {M : q_M} {r : List Value} {a0 : Nat} : q_g 38 none Q 16 [some (.ref a0)] (r) M = q_g 38 none Q 20 [some (.ref a0)] (r) M := r_goto (by decide) (by decide) d38_16
theorem d38_19 : decode (q_code 38) 19 = .ok (.iconst 0, 1) := by decide +kernel
theorem gR_readSecond_19 {Q : q_R} {M : q_M} {r : List Value} {a0 : Nat} : q_g 38 none Q 19 [some (.ref a0)] (r) M = q_g 38 none Q 20 [some (.ref a0)] (.int 0 :: r) M := r_iconst (by decide) d38_19
theorem d38_20 : decode (q_code 38) 20 = .ok (.ireturn, 1) := by decide +kernel
theorem gR_readSecond_20 {Q : q_R} {M : q_M} {a0 : Nat} {s0 : Int32} : q_g 38 none Q 20 [some (.ref a0)] ([.int s0]) M = ((s0 = 0 ∨ s0 = 1) ∧ Q (some (.int s0)) M) := r_zret (r := []) (by decide +kernel) d38_20
theorem e_R_readStatement {Q : q_R} {M : q_M} {a0 : Nat} : q_Run 39 [.ref a0] M Q = q_g 39 none Q 0 [some (.ref a0)] [] M := q_entry (Nat.le_of_ble_eq_true rfl) rfl
theorem d39_0 : decode (q_code 39) 0 = .ok (.aload_n 0, 1) := by decide +kernel
theorem gR_readStatement_0 {Q : q_R} {M : q_M} {r : List Value} {a0 : Nat} : q_g 39 none Q 0 [some (.ref a0)] (r) M = q_g 39 none Q 1 [some (.ref a0)] (.ref a0 :: r) M := r_aload_n rfl d39_0
theorem d39_1 : decode (q_code 39) 1 = .ok (.aload_n 0, 1) := by decide +kernel
theorem gR_readStatement_1 {Q : q_R} {M : q_M} {r : List Value} {a0 : Nat} : q_g 39 none Q 1 [some (.ref a0)] (r) M = q_g 39 none Q 2 [some (.ref a0)] (.ref a0 :: r) M := r_aload_n rfl d39_1
theorem d39_2 : decode (q_code 39) 2 = .ok (.invokevirtual 72, 3) := by decide +kernel
theorem gR_readStatement_2 {Q : q_R} {M : q_M} {a0 : Nat} {s0 : Nat} {s1 : Nat} : q_g 39 none Q 2 [some (.ref a0)] ([.ref s0, .ref s1]) M = (q_isC 2 s0 = true ∧ q_Run 31 [.ref s0] M (fun v M' => q_g 39 none Q 5 [some (.ref a0)] (v.toList ++ [.ref s1]) M')) := r_call_virtual (k := 1) (by decide +kernel) (by decide +kernel) (Nat.le_of_ble_eq_true rfl) (Nat.le_of_ble_eq_true rfl) rfl rfl d39_2
theorem d39_5 : decode (q_code 39) 5 = .ok (.putfield 36, 3) := by decide +kernel
theorem gR_readStatement_5 {Q : q_R} {M : q_M} {r : List Value} {a0 : Nat} {s0 : Int32} {s1 : Nat} : q_g 39 none Q 5 [some (.ref a0)] (.int s0 :: .ref s1 :: r) M = (q_isC 2 s1 = true ∧ q_g 39 none Q 8 [some (.ref a0)] (r) (q_put M s1 3 s0)) := r_putI (by decide +kernel) (by decide +kernel) (by decide +kernel) d39_5
theorem d39_8 : decode (q_code 39) 8 = .ok (.aload_n 0, 1) := by decide +kernel
theorem gR_readStatement_8 {Q : q_R} {M : q_M} {r : List Value} {a0 : Nat} : q_g 39 none Q 8 [some (.ref a0)] (r) M = q_g 39 none Q 9 [some (.ref a0)] (.ref a0 :: r) M := r_aload_n rfl d39_8
theorem d39_9 : decode (q_code 39) 9 = .ok (.getfield 36, 3) := by decide +kernel
theorem gR_readStatement_9 {Q : q_R} {M : q_M} {r : List Value} {a0 : Nat} {s0 : Nat} : q_g 39 none Q 9 [some (.ref a0)] (.ref s0 :: r) M = (q_isC 2 s0 = true ∧ q_g 39 none Q 12 [some (.ref a0)] (.int (M s0 3) :: r) M) := r_getI (by decide +kernel) (by decide +kernel) d39_9
theorem d39_12 : decode (q_code 39) 12 = .ok (.lookupswitch 155 #[(97, 84), (99, 84), (104, 123), (110, 84), (116, 52)], 52) := by decide +kernel
theorem gR_readStatement_12 {Q : q_R} {M : q_M} {r : List Value} {a0 : Nat} {s0 : Int32} : q_g 39 none Q 12 [some (.ref a0)] (.int s0 :: r) M = (if s0 = 97 then q_g 39 none Q 96 [some (.ref a0)] (r) M else if s0 = 99 then q_g 39 none Q 96 [some (.ref a0)] (r) M else if s0 = 104 then q_g 39 none Q 135 [some (.ref a0)] (r) M else if s0 = 110 then q_g 39 none Q 96 [some (.ref a0)] (r) M else if s0 = 116 then q_g 39 none Q 64 [some (.ref a0)] (r) M else q_g 39 none Q 167 [some (.ref a0)] (r) M) := by
  by_cases h0 : s0 = 97
  · rw [if_pos h0]
    subst h0
    exact r_lookup (off := 84) (by decide) (by decide) (by decide) (by decide) d39_12
  rw [if_neg h0]
  by_cases h1 : s0 = 99
  · rw [if_pos h1]
    subst h1
    exact r_lookup (off := 84) (by decide) (by decide) (by decide) (by decide) d39_12
  rw [if_neg h1]
  by_cases h2 : s0 = 104
  · rw [if_pos h2]
    subst h2
    exact r_lookup (off := 123) (by decide) (by decide) (by decide) (by decide) d39_12
  rw [if_neg h2]
  by_cases h3 : s0 = 110
  · rw [if_pos h3]
    subst h3
    exact r_lookup (off := 84) (by decide) (by decide) (by decide) (by decide) d39_12
  rw [if_neg h3]
  by_cases h4 : s0 = 116
  · rw [if_pos h4]
    subst h4
    exact r_lookup (off := 52) (by decide) (by decide) (by decide) (by decide) d39_12
  rw [if_neg h4]
  exact r_lookup (off := 155) (by decide) ((lv_osw h0 (by decide)).trans ((lv_osw h1 (by decide)).trans ((lv_osw h2 (by decide)).trans ((lv_osw h3 (by decide)).trans ((lv_osw h4 (by decide)).trans (rfl)))))) (by decide) (by decide) d39_12
theorem d39_64 : decode (q_code 39) 64 = .ok (.aload_n 0, 1) := by decide +kernel
theorem gR_readStatement_64 {Q : q_R} {M : q_M} {r : List Value} {a0 : Nat} : q_g 39 none Q 64 [some (.ref a0)] (r) M = q_g 39 none Q 65 [some (.ref a0)] (.ref a0 :: r) M := r_aload_n rfl d39_64
theorem d39_65 : decode (q_code 39) 65 = .ok (.dup, 1) := by decide +kernel
theorem gR_readStatement_65 {Q : q_R} {M : q_M} {r : List Value} {a0 : Nat} {s0 : Nat} : q_g 39 none Q 65 [some (.ref a0)] (.ref s0 :: r) M = q_g 39 none Q 66 [some (.ref a0)] (.ref s0 :: .ref s0 :: r) M := r_dup rfl d39_65
theorem d39_66 : decode (q_code 39) 66 = .ok (.getfield 25, 3) := by decide +kernel
theorem gR_readStatement_66 {Q : q_R} {M : q_M} {r : List Value} {a0 : Nat} {s0 : Nat} : q_g 39 none Q 66 [some (.ref a0)] (.ref s0 :: r) M = (q_isC 2 s0 = true ∧ q_g 39 none Q 69 [some (.ref a0)] (.int (M s0 2) :: r) M) := r_getI (by decide +kernel) (by decide +kernel) d39_66
theorem d39_69 : decode (q_code 39) 69 = .ok (.iconst 1, 1) := by decide +kernel
theorem gR_readStatement_69 {Q : q_R} {M : q_M} {r : List Value} {a0 : Nat} : q_g 39 none Q 69 [some (.ref a0)] (r) M = q_g 39 none Q 70 [some (.ref a0)] (.int 1 :: r) M := r_iconst (by decide) d39_69
theorem d39_70 : decode (q_code 39) 70 = .ok (.iadd, 1) := by decide +kernel
theorem gR_readStatement_70 {Q : q_R} {M : q_M} {r : List Value} {a0 : Nat} {s0 : Int32} {s1 : Int32} : q_g 39 none Q 70 [some (.ref a0)] (.int s0 :: .int s1 :: r) M = q_g 39 none Q 71 [some (.ref a0)] (.int (s1 + s0) :: r) M := r_iadd d39_70
theorem d39_71 : decode (q_code 39) 71 = .ok (.putfield 25, 3) := by decide +kernel
theorem gR_readStatement_71 {Q : q_R} {M : q_M} {r : List Value} {a0 : Nat} {s0 : Int32} {s1 : Nat} : q_g 39 none Q 71 [some (.ref a0)] (.int s0 :: .ref s1 :: r) M = (q_isC 2 s1 = true ∧ q_g 39 none Q 74 [some (.ref a0)] (r) (q_put M s1 2 s0)) := r_putI (by decide +kernel) (by decide +kernel) (by decide +kernel) d39_71
theorem d39_74 : decode (q_code 39) 74 = .ok (.aload_n 0, 1) := by decide +kernel
theorem gR_readStatement_74 {Q : q_R} {M : q_M} {r : List Value} {a0 : Nat} : q_g 39 none Q 74 [some (.ref a0)] (r) M = q_g 39 none Q 75 [some (.ref a0)] (.ref a0 :: r) M := r_aload_n rfl d39_74
theorem d39_75 : decode (q_code 39) 75 = .ok (.invokevirtual 76, 3) := by decide +kernel
theorem gR_readStatement_75 {Q : q_R} {M : q_M} {a0 : Nat} {s0 : Nat} : q_g 39 none Q 75 [some (.ref a0)] ([.ref s0]) M = (q_isC 2 s0 = true ∧ q_Run 40 [.ref s0] M (fun v M' => q_g 39 none Q 78 [some (.ref a0)] (v.toList ++ []) M')) := r_call_virtual (k := 1) (by decide +kernel) (by decide +kernel) (Nat.le_of_ble_eq_true rfl) (Nat.le_of_ble_eq_true rfl) rfl rfl d39_75
theorem d39_78 : decode (q_code 39) 78 = .ok (.ifCond .eq 16, 3) := by decide +kernel
theorem gR_readStatement_78 {Q : q_R} {M : q_M} {r : List Value} {a0 : Nat} {s0 : Int32} : q_g 39 none Q 78 [some (.ref a0)] (.int s0 :: r) M = (if s0 = 0 then q_g 39 none Q 94 [some (.ref a0)] (r) M else q_g 39 none Q 81 [some (.ref a0)] (r) M) := r_if_eq (by decide) (by decide) d39_78
theorem d39_81 : decode (q_code 39) 81 = .ok (.aload_n 0, 1) := by decide +kernel
theorem gR_readStatement_81 {Q : q_R} {M : q_M} {r : List Value} {a0 : Nat} : q_g 39 none Q 81 [some (.ref a0)] (r) M = q_g 39 none Q 82 [some (.ref a0)] (.ref a0 :: r) M := r_aload_n rfl d39_81
theorem d39_82 : decode (q_code 39) 82 = .ok (.bipush 59, 2) := by decide +kernel
theorem gR_readStatement_82 {Q : q_R} {M : q_M} {r : List Value} {a0 : Nat} : q_g 39 none Q 82 [some (.ref a0)] (r) M = q_g 39 none Q 84 [some (.ref a0)] (.int 59 :: r) M := r_bipush (by decide) d39_82
theorem d39_84 : decode (q_code 39) 84 = .ok (.invokevirtual 79, 3) := by decide +kernel
theorem gR_readStatement_84 {Q : q_R} {M : q_M} {a0 : Nat} {s0 : Int32} {s1 : Nat} : q_g 39 none Q 84 [some (.ref a0)] ([.int s0, .ref s1]) M = (q_isC 2 s1 = true ∧ q_Run 34 [.ref s1, .int s0] M (fun v M' => q_g 39 none Q 87 [some (.ref a0)] (v.toList ++ []) M')) := r_call_virtual (k := 2) (by decide +kernel) (by decide +kernel) (Nat.le_of_ble_eq_true rfl) (Nat.le_of_ble_eq_true rfl) rfl rfl d39_84
theorem d39_87 : decode (q_code 39) 87 = .ok (.ifCond .eq 7, 3) := by decide +kernel
theorem gR_readStatement_87 {Q : q_R} {M : q_M} {r : List Value} {a0 : Nat} {s0 : Int32} : q_g 39 none Q 87 [some (.ref a0)] (.int s0 :: r) M = (if s0 = 0 then q_g 39 none Q 94 [some (.ref a0)] (r) M else q_g 39 none Q 90 [some (.ref a0)] (r) M) := r_if_eq (by decide) (by decide) d39_87
theorem d39_90 : decode (q_code 39) 90 = .ok (.iconst 1, 1) := by decide +kernel
theorem gR_readStatement_90 {Q : q_R} {M : q_M} {r : List Value} {a0 : Nat} : q_g 39 none Q 90 [some (.ref a0)] (r) M = q_g 39 none Q 91 [some (.ref a0)] (.int 1 :: r) M := r_iconst (by decide) d39_90
theorem d39_91 : decode (q_code 39) 91 = .ok (.goto 4, 3) := by decide +kernel
theorem gR_readStatement_91 {Q : q_R} {M : q_M} {r : List Value} {a0 : Nat} : q_g 39 none Q 91 [some (.ref a0)] (r) M = q_g 39 none Q 95 [some (.ref a0)] (r) M := r_goto (by decide) (by decide) d39_91
theorem d39_94 : decode (q_code 39) 94 = .ok (.iconst 0, 1) := by decide +kernel
theorem gR_readStatement_94 {Q : q_R} {M : q_M} {r : List Value} {a0 : Nat} : q_g 39 none Q 94 [some (.ref a0)] (r) M = q_g 39 none Q 95 [some (.ref a0)] (.int 0 :: r) M := r_iconst (by decide) d39_94
theorem d39_95 : decode (q_code 39) 95 = .ok (.ireturn, 1) := by decide +kernel
theorem gR_readStatement_95 {Q : q_R} {M : q_M} {a0 : Nat} {s0 : Int32} : q_g 39 none Q 95 [some (.ref a0)] ([.int s0]) M = ((s0 = 0 ∨ s0 = 1) ∧ Q (some (.int s0)) M) := r_zret (r := []) (by decide +kernel) d39_95
theorem d39_96 : decode (q_code 39) 96 = .ok (.aload_n 0, 1) := by decide +kernel
theorem gR_readStatement_96 {Q : q_R} {M : q_M} {r : List Value} {a0 : Nat} : q_g 39 none Q 96 [some (.ref a0)] (r) M = q_g 39 none Q 97 [some (.ref a0)] (.ref a0 :: r) M := r_aload_n rfl d39_96
theorem d39_97 : decode (q_code 39) 97 = .ok (.dup, 1) := by decide +kernel
theorem gR_readStatement_97 {Q : q_R} {M : q_M} {r : List Value} {a0 : Nat} {s0 : Nat} : q_g 39 none Q 97 [some (.ref a0)] (.ref s0 :: r) M = q_g 39 none Q 98 [some (.ref a0)] (.ref s0 :: .ref s0 :: r) M := r_dup rfl d39_97
theorem d39_98 : decode (q_code 39) 98 = .ok (.getfield 25, 3) := by decide +kernel
theorem gR_readStatement_98 {Q : q_R} {M : q_M} {r : List Value} {a0 : Nat} {s0 : Nat} : q_g 39 none Q 98 [some (.ref a0)] (.ref s0 :: r) M = (q_isC 2 s0 = true ∧ q_g 39 none Q 101 [some (.ref a0)] (.int (M s0 2) :: r) M) := r_getI (by decide +kernel) (by decide +kernel) d39_98
theorem d39_101 : decode (q_code 39) 101 = .ok (.iconst 1, 1) := by decide +kernel
theorem gR_readStatement_101 {Q : q_R} {M : q_M} {r : List Value} {a0 : Nat} : q_g 39 none Q 101 [some (.ref a0)] (r) M = q_g 39 none Q 102 [some (.ref a0)] (.int 1 :: r) M := r_iconst (by decide) d39_101
theorem d39_102 : decode (q_code 39) 102 = .ok (.iadd, 1) := by decide +kernel
theorem gR_readStatement_102 {Q : q_R} {M : q_M} {r : List Value} {a0 : Nat} {s0 : Int32} {s1 : Int32} : q_g 39 none Q 102 [some (.ref a0)] (.int s0 :: .int s1 :: r) M = q_g 39 none Q 103 [some (.ref a0)] (.int (s1 + s0) :: r) M := r_iadd d39_102
theorem d39_103 : decode (q_code 39) 103 = .ok (.putfield 25, 3) := by decide +kernel
theorem gR_readStatement_103 {Q : q_R} {M : q_M} {r : List Value} {a0 : Nat} {s0 : Int32} {s1 : Nat} : q_g 39 none Q 103 [some (.ref a0)] (.int s0 :: .ref s1 :: r) M = (q_isC 2 s1 = true ∧ q_g 39 none Q 106 [some (.ref a0)] (r) (q_put M s1 2 s0)) := r_putI (by decide +kernel) (by decide +kernel) (by decide +kernel) d39_103
theorem d39_106 : decode (q_code 39) 106 = .ok (.aload_n 0, 1) := by decide +kernel
theorem gR_readStatement_106 {Q : q_R} {M : q_M} {r : List Value} {a0 : Nat} : q_g 39 none Q 106 [some (.ref a0)] (r) M = q_g 39 none Q 107 [some (.ref a0)] (.ref a0 :: r) M := r_aload_n rfl d39_106
theorem d39_107 : decode (q_code 39) 107 = .ok (.invokevirtual 82, 3) := by decide +kernel
theorem gR_readStatement_107 {Q : q_R} {M : q_M} {a0 : Nat} {s0 : Nat} : q_g 39 none Q 107 [some (.ref a0)] ([.ref s0]) M = (q_isC 2 s0 = true ∧ q_Run 36 [.ref s0] M (fun v M' => q_g 39 none Q 110 [some (.ref a0)] (v.toList ++ []) M')) := r_call_virtual (k := 1) (by decide +kernel) (by decide +kernel) (Nat.le_of_ble_eq_true rfl) (Nat.le_of_ble_eq_true rfl) rfl rfl d39_107
theorem d39_110 : decode (q_code 39) 110 = .ok (.ifCond .eq 23, 3) := by decide +kernel
theorem gR_readStatement_110 {Q : q_R} {M : q_M} {r : List Value} {a0 : Nat} {s0 : Int32} : q_g 39 none Q 110 [some (.ref a0)] (.int s0 :: r) M = (if s0 = 0 then q_g 39 none Q 133 [some (.ref a0)] (r) M else q_g 39 none Q 113 [some (.ref a0)] (r) M) := r_if_eq (by decide) (by decide) d39_110
theorem d39_113 : decode (q_code 39) 113 = .ok (.aload_n 0, 1) := by decide +kernel
theorem gR_readStatement_113 {Q : q_R} {M : q_M} {r : List Value} {a0 : Nat} : q_g 39 none Q 113 [some (.ref a0)] (r) M = q_g 39 none Q 114 [some (.ref a0)] (.ref a0 :: r) M := r_aload_n rfl d39_113
theorem d39_114 : decode (q_code 39) 114 = .ok (.invokevirtual 85, 3) := by decide +kernel
theorem gR_readStatement_114 {Q : q_R} {M : q_M} {a0 : Nat} {s0 : Nat} : q_g 39 none Q 114 [some (.ref a0)] ([.ref s0]) M = (q_isC 2 s0 = true ∧ q_Run 38 [.ref s0] M (fun v M' => q_g 39 none Q 117 [some (.ref a0)] (v.toList ++ []) M')) := r_call_virtual (k := 1) (by decide +kernel) (by decide +kernel) (Nat.le_of_ble_eq_true rfl) (Nat.le_of_ble_eq_true rfl) rfl rfl d39_114
theorem d39_117 : decode (q_code 39) 117 = .ok (.ifCond .eq 16, 3) := by decide +kernel
theorem gR_readStatement_117 {Q : q_R} {M : q_M} {r : List Value} {a0 : Nat} {s0 : Int32} : q_g 39 none Q 117 [some (.ref a0)] (.int s0 :: r) M = (if s0 = 0 then q_g 39 none Q 133 [some (.ref a0)] (r) M else q_g 39 none Q 120 [some (.ref a0)] (r) M) := r_if_eq (by decide) (by decide) d39_117
theorem d39_120 : decode (q_code 39) 120 = .ok (.aload_n 0, 1) := by decide +kernel
theorem gR_readStatement_120 {Q : q_R} {M : q_M} {r : List Value} {a0 : Nat} : q_g 39 none Q 120 [some (.ref a0)] (r) M = q_g 39 none Q 121 [some (.ref a0)] (.ref a0 :: r) M := r_aload_n rfl d39_120
theorem d39_121 : decode (q_code 39) 121 = .ok (.bipush 59, 2) := by decide +kernel
theorem gR_readStatement_121 {Q : q_R} {M : q_M} {r : List Value} {a0 : Nat} : q_g 39 none Q 121 [some (.ref a0)] (r) M = q_g 39 none Q 123 [some (.ref a0)] (.int 59 :: r) M := r_bipush (by decide) d39_121
theorem d39_123 : decode (q_code 39) 123 = .ok (.invokevirtual 79, 3) := by decide +kernel
theorem gR_readStatement_123 {Q : q_R} {M : q_M} {a0 : Nat} {s0 : Int32} {s1 : Nat} : q_g 39 none Q 123 [some (.ref a0)] ([.int s0, .ref s1]) M = (q_isC 2 s1 = true ∧ q_Run 34 [.ref s1, .int s0] M (fun v M' => q_g 39 none Q 126 [some (.ref a0)] (v.toList ++ []) M')) := r_call_virtual (k := 2) (by decide +kernel) (by decide +kernel) (Nat.le_of_ble_eq_true rfl) (Nat.le_of_ble_eq_true rfl) rfl rfl d39_123
theorem d39_126 : decode (q_code 39) 126 = .ok (.ifCond .eq 7, 3) := by decide +kernel
theorem gR_readStatement_126 {Q : q_R} {M : q_M} {r : List Value} {a0 : Nat} {s0 : Int32} : q_g 39 none Q 126 [some (.ref a0)] (.int s0 :: r) M = (if s0 = 0 then q_g 39 none Q 133 [some (.ref a0)] (r) M else q_g 39 none Q 129 [some (.ref a0)] (r) M) := r_if_eq (by decide) (by decide) d39_126
theorem d39_129 : decode (q_code 39) 129 = .ok (.iconst 1, 1) := by decide +kernel
theorem gR_readStatement_129 {Q : q_R} {M : q_M} {r : List Value} {a0 : Nat} : q_g 39 none Q 129 [some (.ref a0)] (r) M = q_g 39 none Q 130 [some (.ref a0)] (.int 1 :: r) M := r_iconst (by decide) d39_129
theorem d39_130 : decode (q_code 39) 130 = .ok (.goto 4, 3) := by decide +kernel
theorem gR_readStatement_130 {Q : q_R} {M : q_M} {r : List Value} {a0 : Nat} : q_g 39 none Q 130 [some (.ref a0)] (r) M = q_g 39 none Q 134 [some (.ref a0)] (r) M := r_goto (by decide) (by decide) d39_130
theorem d39_133 : decode (q_code 39) 133 = .ok (.iconst 0, 1) := by decide +kernel
theorem gR_readStatement_133 {Q : q_R} {M : q_M} {r : List Value} {a0 : Nat} : q_g 39 none Q 133 [some (.ref a0)] (r) M = q_g 39 none Q 134 [some (.ref a0)] (.int 0 :: r) M := r_iconst (by decide) d39_133
theorem d39_134 : decode (q_code 39) 134 = .ok (.ireturn, 1) := by decide +kernel
theorem gR_readStatement_134 {Q : q_R} {M : q_M} {a0 : Nat} {s0 : Int32} : q_g 39 none Q 134 [some (.ref a0)] ([.int s0]) M = ((s0 = 0 ∨ s0 = 1) ∧ Q (some (.int s0)) M) := r_zret (r := []) (by decide +kernel) d39_134
theorem d39_135 : decode (q_code 39) 135 = .ok (.aload_n 0, 1) := by decide +kernel
theorem gR_readStatement_135 {Q : q_R} {M : q_M} {r : List Value} {a0 : Nat} : q_g 39 none Q 135 [some (.ref a0)] (r) M = q_g 39 none Q 136 [some (.ref a0)] (.ref a0 :: r) M := r_aload_n rfl d39_135
theorem d39_136 : decode (q_code 39) 136 = .ok (.dup, 1) := by decide +kernel
theorem gR_readStatement_136 {Q : q_R} {M : q_M} {r : List Value} {a0 : Nat} {s0 : Nat} : q_g 39 none Q 136 [some (.ref a0)] (.ref s0 :: r) M = q_g 39 none Q 137 [some (.ref a0)] (.ref s0 :: .ref s0 :: r) M := r_dup rfl d39_136
theorem d39_137 : decode (q_code 39) 137 = .ok (.getfield 25, 3) := by decide +kernel
theorem gR_readStatement_137 {Q : q_R} {M : q_M} {r : List Value} {a0 : Nat} {s0 : Nat} : q_g 39 none Q 137 [some (.ref a0)] (.ref s0 :: r) M = (q_isC 2 s0 = true ∧ q_g 39 none Q 140 [some (.ref a0)] (.int (M s0 2) :: r) M) := r_getI (by decide +kernel) (by decide +kernel) d39_137
theorem d39_140 : decode (q_code 39) 140 = .ok (.iconst 1, 1) := by decide +kernel
theorem gR_readStatement_140 {Q : q_R} {M : q_M} {r : List Value} {a0 : Nat} : q_g 39 none Q 140 [some (.ref a0)] (r) M = q_g 39 none Q 141 [some (.ref a0)] (.int 1 :: r) M := r_iconst (by decide) d39_140
theorem d39_141 : decode (q_code 39) 141 = .ok (.iadd, 1) := by decide +kernel
theorem gR_readStatement_141 {Q : q_R} {M : q_M} {r : List Value} {a0 : Nat} {s0 : Int32} {s1 : Int32} : q_g 39 none Q 141 [some (.ref a0)] (.int s0 :: .int s1 :: r) M = q_g 39 none Q 142 [some (.ref a0)] (.int (s1 + s0) :: r) M := r_iadd d39_141
theorem d39_142 : decode (q_code 39) 142 = .ok (.putfield 25, 3) := by decide +kernel
theorem gR_readStatement_142 {Q : q_R} {M : q_M} {r : List Value} {a0 : Nat} {s0 : Int32} {s1 : Nat} : q_g 39 none Q 142 [some (.ref a0)] (.int s0 :: .ref s1 :: r) M = (q_isC 2 s1 = true ∧ q_g 39 none Q 145 [some (.ref a0)] (r) (q_put M s1 2 s0)) := r_putI (by decide +kernel) (by decide +kernel) (by decide +kernel) d39_142
theorem d39_145 : decode (q_code 39) 145 = .ok (.aload_n 0, 1) := by decide +kernel
theorem gR_readStatement_145 {Q : q_R} {M : q_M} {r : List Value} {a0 : Nat} : q_g 39 none Q 145 [some (.ref a0)] (r) M = q_g 39 none Q 146 [some (.ref a0)] (.ref a0 :: r) M := r_aload_n rfl d39_145
theorem d39_146 : decode (q_code 39) 146 = .ok (.invokevirtual 82, 3) := by decide +kernel
theorem gR_readStatement_146 {Q : q_R} {M : q_M} {a0 : Nat} {s0 : Nat} : q_g 39 none Q 146 [some (.ref a0)] ([.ref s0]) M = (q_isC 2 s0 = true ∧ q_Run 36 [.ref s0] M (fun v M' => q_g 39 none Q 149 [some (.ref a0)] (v.toList ++ []) M')) := r_call_virtual (k := 1) (by decide +kernel) (by decide +kernel) (Nat.le_of_ble_eq_true rfl) (Nat.le_of_ble_eq_true rfl) rfl rfl d39_146
theorem d39_149 : decode (q_code 39) 149 = .ok (.ifCond .eq 16, 3) := by decide +kernel
theorem gR_readStatement_149 {Q : q_R} {M : q_M} {r : List Value} {a0 : Nat} {s0 : Int32} : q_g 39 none Q 149 [some (.ref a0)] (.int s0 :: r) M = (if s0 = 0 then q_g 39 none Q 165 [some (.ref a0)] (r) M else q_g 39 none Q 152 [some (.ref a0)] (r) M) := r_if_eq (by decide) (by decide) d39_149
theorem d39_152 : decode (q_code 39) 152 = .ok (.aload_n 0, 1) := by decide +kernel
theorem gR_readStatement_152 {Q : q_R} {M : q_M} {r : List Value} {a0 : Nat} : q_g 39 none Q 152 [some (.ref a0)] (r) M = q_g 39 none Q 153 [some (.ref a0)] (.ref a0 :: r) M := r_aload_n rfl d39_152
theorem d39_153 : decode (q_code 39) 153 = .ok (.bipush 59, 2) := by decide +kernel
theorem gR_readStatement_153 {Q : q_R} {M : q_M} {r : List Value} {a0 : Nat} : q_g 39 none Q 153 [some (.ref a0)] (r) M = q_g 39 none Q 155 [some (.ref a0)] (.int 59 :: r) M := r_bipush (by decide) d39_153
theorem d39_155 : decode (q_code 39) 155 = .ok (.invokevirtual 79, 3) := by decide +kernel
theorem gR_readStatement_155 {Q : q_R} {M : q_M} {a0 : Nat} {s0 : Int32} {s1 : Nat} : q_g 39 none Q 155 [some (.ref a0)] ([.int s0, .ref s1]) M = (q_isC 2 s1 = true ∧ q_Run 34 [.ref s1, .int s0] M (fun v M' => q_g 39 none Q 158 [some (.ref a0)] (v.toList ++ []) M')) := r_call_virtual (k := 2) (by decide +kernel) (by decide +kernel) (Nat.le_of_ble_eq_true rfl) (Nat.le_of_ble_eq_true rfl) rfl rfl d39_155
theorem d39_158 : decode (q_code 39) 158 = .ok (.ifCond .eq 7, 3) := by decide +kernel
theorem gR_readStatement_158 {Q : q_R} {M : q_M} {r : List Value} {a0 : Nat} {s0 : Int32} : q_g 39 none Q 158 [some (.ref a0)] (.int s0 :: r) M = (if s0 = 0 then q_g 39 none Q 165 [some (.ref a0)] (r) M else q_g 39 none Q 161 [some (.ref a0)] (r) M) := r_if_eq (by decide) (by decide) d39_158
theorem d39_161 : decode (q_code 39) 161 = .ok (.iconst 1, 1) := by decide +kernel
theorem gR_readStatement_161 {Q : q_R} {M : q_M} {r : List Value} {a0 : Nat} : q_g 39 none Q 161 [some (.ref a0)] (r) M = q_g 39 none Q 162 [some (.ref a0)] (.int 1 :: r) M := r_iconst (by decide) d39_161
theorem d39_162 : decode (q_code 39) 162 = .ok (.goto 4, 3) := by decide +kernel
theorem gR_readStatement_162 {Q : q_R} {M : q_M} {r : List Value} {a0 : Nat} : q_g 39 none Q 162 [some (.ref a0)] (r) M = q_g 39 none Q 166 [some (.ref a0)] (r) M := r_goto (by decide) (by decide) d39_162
theorem d39_165 : decode (q_code 39) 165 = .ok (.iconst 0, 1) := by decide +kernel
theorem gR_readStatement_165 {Q : q_R} {M : q_M} {r : List Value} {a0 : Nat} : q_g 39 none Q 165 [some (.ref a0)] (r) M = q_g 39 none Q 166 [some (.ref a0)] (.int 0 :: r) M := r_iconst (by decide) d39_165
theorem d39_166 : decode (q_code 39) 166 = .ok (.ireturn, 1) := by decide +kernel
theorem gR_readStatement_166 {Q : q_R} {M : q_M} {a0 : Nat} {s0 : Int32} : q_g 39 none Q 166 [some (.ref a0)] ([.int s0]) M = ((s0 = 0 ∨ s0 = 1) ∧ Q (some (.int s0)) M) := r_zret (r := []) (by decide +kernel) d39_166
theorem d39_167 : decode (q_code 39) 167 = .ok (.iconst 0, 1) := by decide +kernel
theorem gR_readStatement_167 {Q : q_R} {M : q_M} {r : List Value} {a0 : Nat} : q_g 39 none Q 167 [some (.ref a0)] (r) M = q_g 39 none Q 168 [some (.ref a0)] (.int 0 :: r) M := r_iconst (by decide) d39_167
theorem d39_168 : decode (q_code 39) 168 = .ok (.ireturn, 1) := by decide +kernel
theorem gR_readStatement_168 {Q : q_R} {M : q_M} {a0 : Nat} {s0 : Int32} : q_g 39 none Q 168 [some (.ref a0)] ([.int s0]) M = ((s0 = 0 ∨ s0 = 1) ∧ Q (some (.int s0)) M) := r_zret (r := []) (by decide +kernel) d39_168
theorem e_R_readThing {Q : q_R} {M : q_M} {a0 : Nat} : q_Run 40 [.ref a0] M Q = q_g 40 none Q 0 [some (.ref a0)] [] M := q_entry (Nat.le_of_ble_eq_true rfl) rfl
theorem d40_0 : decode (q_code 40) 0 = .ok (.aload_n 0, 1) := by decide +kernel
theorem gR_readThing_0 {Q : q_R} {M : q_M} {r : List Value} {a0 : Nat} : q_g 40 none Q 0 [some (.ref a0)] (r) M = q_g 40 none Q 1 [some (.ref a0)] (.ref a0 :: r) M := r_aload_n rfl d40_0
theorem d40_1 : decode (q_code 40) 1 = .ok (.aload_n 0, 1) := by decide +kernel
theorem gR_readThing_1 {Q : q_R} {M : q_M} {r : List Value} {a0 : Nat} : q_g 40 none Q 1 [some (.ref a0)] (r) M = q_g 40 none Q 2 [some (.ref a0)] (.ref a0 :: r) M := r_aload_n rfl d40_1
theorem d40_2 : decode (q_code 40) 2 = .ok (.invokevirtual 72, 3) := by decide +kernel
theorem gR_readThing_2 {Q : q_R} {M : q_M} {a0 : Nat} {s0 : Nat} {s1 : Nat} : q_g 40 none Q 2 [some (.ref a0)] ([.ref s0, .ref s1]) M = (q_isC 2 s0 = true ∧ q_Run 31 [.ref s0] M (fun v M' => q_g 40 none Q 5 [some (.ref a0)] (v.toList ++ [.ref s1]) M')) := r_call_virtual (k := 1) (by decide +kernel) (by decide +kernel) (Nat.le_of_ble_eq_true rfl) (Nat.le_of_ble_eq_true rfl) rfl rfl d40_2
theorem d40_5 : decode (q_code 40) 5 = .ok (.invokestatic 88, 3) := by decide +kernel
theorem gR_readThing_5 {Q : q_R} {M : q_M} {a0 : Nat} {s0 : Int32} {s1 : Nat} : q_g 40 none Q 5 [some (.ref a0)] ([.int s0, .ref s1]) M = q_Run 33 [.int s0] M (fun v M' => q_g 40 none Q 8 [some (.ref a0)] (v.toList ++ [.ref s1]) M') := r_call_static (k := 1) (by decide +kernel) (by decide +kernel) (by decide +kernel) (Nat.le_of_ble_eq_true rfl) (Nat.le_of_ble_eq_true rfl) rfl rfl d40_5
theorem d40_8 : decode (q_code 40) 8 = .ok (.putfield 39, 3) := by decide +kernel
theorem gR_readThing_8 {Q : q_R} {M : q_M} {r : List Value} {a0 : Nat} {s0 : Int32} {s1 : Nat} : q_g 40 none Q 8 [some (.ref a0)] (.int s0 :: .ref s1 :: r) M = (q_isC 2 s1 = true ∧ q_g 40 none Q 11 [some (.ref a0)] (r) (q_put M s1 4 s0)) := r_putI (by decide +kernel) (by decide +kernel) (by decide +kernel) d40_8
theorem d40_11 : decode (q_code 40) 11 = .ok (.aload_n 0, 1) := by decide +kernel
theorem gR_readThing_11 {Q : q_R} {M : q_M} {r : List Value} {a0 : Nat} : q_g 40 none Q 11 [some (.ref a0)] (r) M = q_g 40 none Q 12 [some (.ref a0)] (.ref a0 :: r) M := r_aload_n rfl d40_11
theorem d40_12 : decode (q_code 40) 12 = .ok (.getfield 39, 3) := by decide +kernel
theorem gR_readThing_12 {Q : q_R} {M : q_M} {r : List Value} {a0 : Nat} {s0 : Nat} : q_g 40 none Q 12 [some (.ref a0)] (.ref s0 :: r) M = (q_isC 2 s0 = true ∧ q_g 40 none Q 15 [some (.ref a0)] (.int (M s0 4) :: r) M) := r_getI (by decide +kernel) (by decide +kernel) d40_12
theorem d40_15 : decode (q_code 40) 15 = .ok (.ifCond .ge 5, 3) := by decide +kernel
theorem gR_readThing_15 {Q : q_R} {M : q_M} {r : List Value} {a0 : Nat} {s0 : Int32} : q_g 40 none Q 15 [some (.ref a0)] (.int s0 :: r) M = (if 0 ≤ s0 then q_g 40 none Q 20 [some (.ref a0)] (r) M else q_g 40 none Q 18 [some (.ref a0)] (r) M) := r_if_ge (by decide) (by decide) d40_15
theorem d40_18 : decode (q_code 40) 18 = .ok (.iconst 0, 1) := by decide +kernel
theorem gR_readThing_18 {Q : q_R} {M : q_M} {r : List Value} {a0 : Nat} : q_g 40 none Q 18 [some (.ref a0)] (r) M = q_g 40 none Q 19 [some (.ref a0)] (.int 0 :: r) M := r_iconst (by decide) d40_18
theorem d40_19 : decode (q_code 40) 19 = .ok (.ireturn, 1) := by decide +kernel
theorem gR_readThing_19 {Q : q_R} {M : q_M} {a0 : Nat} {s0 : Int32} : q_g 40 none Q 19 [some (.ref a0)] ([.int s0]) M = ((s0 = 0 ∨ s0 = 1) ∧ Q (some (.int s0)) M) := r_zret (r := []) (by decide +kernel) d40_19
theorem d40_20 : decode (q_code 40) 20 = .ok (.aload_n 0, 1) := by decide +kernel
theorem gR_readThing_20 {Q : q_R} {M : q_M} {r : List Value} {a0 : Nat} : q_g 40 none Q 20 [some (.ref a0)] (r) M = q_g 40 none Q 21 [some (.ref a0)] (.ref a0 :: r) M := r_aload_n rfl d40_20
theorem d40_21 : decode (q_code 40) 21 = .ok (.dup, 1) := by decide +kernel
theorem gR_readThing_21 {Q : q_R} {M : q_M} {r : List Value} {a0 : Nat} {s0 : Nat} : q_g 40 none Q 21 [some (.ref a0)] (.ref s0 :: r) M = q_g 40 none Q 22 [some (.ref a0)] (.ref s0 :: .ref s0 :: r) M := r_dup rfl d40_21
theorem d40_22 : decode (q_code 40) 22 = .ok (.getfield 25, 3) := by decide +kernel
theorem gR_readThing_22 {Q : q_R} {M : q_M} {r : List Value} {a0 : Nat} {s0 : Nat} : q_g 40 none Q 22 [some (.ref a0)] (.ref s0 :: r) M = (q_isC 2 s0 = true ∧ q_g 40 none Q 25 [some (.ref a0)] (.int (M s0 2) :: r) M) := r_getI (by decide +kernel) (by decide +kernel) d40_22
theorem d40_25 : decode (q_code 40) 25 = .ok (.iconst 1, 1) := by decide +kernel
theorem gR_readThing_25 {Q : q_R} {M : q_M} {r : List Value} {a0 : Nat} : q_g 40 none Q 25 [some (.ref a0)] (r) M = q_g 40 none Q 26 [some (.ref a0)] (.int 1 :: r) M := r_iconst (by decide) d40_25
theorem d40_26 : decode (q_code 40) 26 = .ok (.iadd, 1) := by decide +kernel
theorem gR_readThing_26 {Q : q_R} {M : q_M} {r : List Value} {a0 : Nat} {s0 : Int32} {s1 : Int32} : q_g 40 none Q 26 [some (.ref a0)] (.int s0 :: .int s1 :: r) M = q_g 40 none Q 27 [some (.ref a0)] (.int (s1 + s0) :: r) M := r_iadd d40_26
theorem d40_27 : decode (q_code 40) 27 = .ok (.putfield 25, 3) := by decide +kernel
theorem gR_readThing_27 {Q : q_R} {M : q_M} {r : List Value} {a0 : Nat} {s0 : Int32} {s1 : Nat} : q_g 40 none Q 27 [some (.ref a0)] (.int s0 :: .ref s1 :: r) M = (q_isC 2 s1 = true ∧ q_g 40 none Q 30 [some (.ref a0)] (r) (q_put M s1 2 s0)) := r_putI (by decide +kernel) (by decide +kernel) (by decide +kernel) d40_27
theorem d40_30 : decode (q_code 40) 30 = .ok (.aload_n 0, 1) := by decide +kernel
theorem gR_readThing_30 {Q : q_R} {M : q_M} {r : List Value} {a0 : Nat} : q_g 40 none Q 30 [some (.ref a0)] (r) M = q_g 40 none Q 31 [some (.ref a0)] (.ref a0 :: r) M := r_aload_n rfl d40_30
theorem d40_31 : decode (q_code 40) 31 = .ok (.aload_n 0, 1) := by decide +kernel
theorem gR_readThing_31 {Q : q_R} {M : q_M} {r : List Value} {a0 : Nat} : q_g 40 none Q 31 [some (.ref a0)] (r) M = q_g 40 none Q 32 [some (.ref a0)] (.ref a0 :: r) M := r_aload_n rfl d40_31
theorem d40_32 : decode (q_code 40) 32 = .ok (.invokevirtual 91, 3) := by decide +kernel
theorem gR_readThing_32 {Q : q_R} {M : q_M} {a0 : Nat} {s0 : Nat} {s1 : Nat} : q_g 40 none Q 32 [some (.ref a0)] ([.ref s0, .ref s1]) M = (q_isC 2 s0 = true ∧ q_Run 37 [.ref s0] M (fun v M' => q_g 40 none Q 35 [some (.ref a0)] (v.toList ++ [.ref s1]) M')) := r_call_virtual (k := 1) (by decide +kernel) (by decide +kernel) (Nat.le_of_ble_eq_true rfl) (Nat.le_of_ble_eq_true rfl) rfl rfl d40_32
theorem d40_35 : decode (q_code 40) 35 = .ok (.putfield 42, 3) := by decide +kernel
theorem gR_readThing_35 {Q : q_R} {M : q_M} {r : List Value} {a0 : Nat} {s0 : Int32} {s1 : Nat} : q_g 40 none Q 35 [some (.ref a0)] (.int s0 :: .ref s1 :: r) M = (q_isC 2 s1 = true ∧ q_g 40 none Q 38 [some (.ref a0)] (r) (q_put M s1 5 s0)) := r_putI (by decide +kernel) (by decide +kernel) (by decide +kernel) d40_35
theorem d40_38 : decode (q_code 40) 38 = .ok (.aload_n 0, 1) := by decide +kernel
theorem gR_readThing_38 {Q : q_R} {M : q_M} {r : List Value} {a0 : Nat} : q_g 40 none Q 38 [some (.ref a0)] (r) M = q_g 40 none Q 39 [some (.ref a0)] (.ref a0 :: r) M := r_aload_n rfl d40_38
theorem d40_39 : decode (q_code 40) 39 = .ok (.getfield 42, 3) := by decide +kernel
theorem gR_readThing_39 {Q : q_R} {M : q_M} {r : List Value} {a0 : Nat} {s0 : Nat} : q_g 40 none Q 39 [some (.ref a0)] (.ref s0 :: r) M = (q_isC 2 s0 = true ∧ q_g 40 none Q 42 [some (.ref a0)] (.int (M s0 5) :: r) M) := r_getI (by decide +kernel) (by decide +kernel) d40_39
theorem d40_42 : decode (q_code 40) 42 = .ok (.ifCond .lt 12, 3) := by decide +kernel
theorem gR_readThing_42 {Q : q_R} {M : q_M} {r : List Value} {a0 : Nat} {s0 : Int32} : q_g 40 none Q 42 [some (.ref a0)] (.int s0 :: r) M = (if s0 < 0 then q_g 40 none Q 54 [some (.ref a0)] (r) M else q_g 40 none Q 45 [some (.ref a0)] (r) M) := r_if_lt (by decide) (by decide) d40_42
theorem d40_45 : decode (q_code 40) 45 = .ok (.aload_n 0, 1) := by decide +kernel
theorem gR_readThing_45 {Q : q_R} {M : q_M} {r : List Value} {a0 : Nat} : q_g 40 none Q 45 [some (.ref a0)] (r) M = q_g 40 none Q 46 [some (.ref a0)] (.ref a0 :: r) M := r_aload_n rfl d40_45
theorem d40_46 : decode (q_code 40) 46 = .ok (.bipush 44, 2) := by decide +kernel
theorem gR_readThing_46 {Q : q_R} {M : q_M} {r : List Value} {a0 : Nat} : q_g 40 none Q 46 [some (.ref a0)] (r) M = q_g 40 none Q 48 [some (.ref a0)] (.int 44 :: r) M := r_bipush (by decide) d40_46
theorem d40_48 : decode (q_code 40) 48 = .ok (.invokevirtual 79, 3) := by decide +kernel
theorem gR_readThing_48 {Q : q_R} {M : q_M} {a0 : Nat} {s0 : Int32} {s1 : Nat} : q_g 40 none Q 48 [some (.ref a0)] ([.int s0, .ref s1]) M = (q_isC 2 s1 = true ∧ q_Run 34 [.ref s1, .int s0] M (fun v M' => q_g 40 none Q 51 [some (.ref a0)] (v.toList ++ []) M')) := r_call_virtual (k := 2) (by decide +kernel) (by decide +kernel) (Nat.le_of_ble_eq_true rfl) (Nat.le_of_ble_eq_true rfl) rfl rfl d40_48
theorem d40_51 : decode (q_code 40) 51 = .ok (.ifCond .ne 5, 3) := by decide +kernel
theorem gR_readThing_51 {Q : q_R} {M : q_M} {r : List Value} {a0 : Nat} {s0 : Int32} : q_g 40 none Q 51 [some (.ref a0)] (.int s0 :: r) M = (if ¬ s0 = 0 then q_g 40 none Q 56 [some (.ref a0)] (r) M else q_g 40 none Q 54 [some (.ref a0)] (r) M) := r_if_ne (by decide) (by decide) d40_51
theorem d40_54 : decode (q_code 40) 54 = .ok (.iconst 0, 1) := by decide +kernel
theorem gR_readThing_54 {Q : q_R} {M : q_M} {r : List Value} {a0 : Nat} : q_g 40 none Q 54 [some (.ref a0)] (r) M = q_g 40 none Q 55 [some (.ref a0)] (.int 0 :: r) M := r_iconst (by decide) d40_54
theorem d40_55 : decode (q_code 40) 55 = .ok (.ireturn, 1) := by decide +kernel
theorem gR_readThing_55 {Q : q_R} {M : q_M} {a0 : Nat} {s0 : Int32} : q_g 40 none Q 55 [some (.ref a0)] ([.int s0]) M = ((s0 = 0 ∨ s0 = 1) ∧ Q (some (.int s0)) M) := r_zret (r := []) (by decide +kernel) d40_55
theorem d40_56 : decode (q_code 40) 56 = .ok (.aload_n 0, 1) := by decide +kernel
theorem gR_readThing_56 {Q : q_R} {M : q_M} {r : List Value} {a0 : Nat} : q_g 40 none Q 56 [some (.ref a0)] (r) M = q_g 40 none Q 57 [some (.ref a0)] (.ref a0 :: r) M := r_aload_n rfl d40_56
theorem d40_57 : decode (q_code 40) 57 = .ok (.aload_n 0, 1) := by decide +kernel
theorem gR_readThing_57 {Q : q_R} {M : q_M} {r : List Value} {a0 : Nat} : q_g 40 none Q 57 [some (.ref a0)] (r) M = q_g 40 none Q 58 [some (.ref a0)] (.ref a0 :: r) M := r_aload_n rfl d40_57
theorem d40_58 : decode (q_code 40) 58 = .ok (.invokevirtual 91, 3) := by decide +kernel
theorem gR_readThing_58 {Q : q_R} {M : q_M} {a0 : Nat} {s0 : Nat} {s1 : Nat} : q_g 40 none Q 58 [some (.ref a0)] ([.ref s0, .ref s1]) M = (q_isC 2 s0 = true ∧ q_Run 37 [.ref s0] M (fun v M' => q_g 40 none Q 61 [some (.ref a0)] (v.toList ++ [.ref s1]) M')) := r_call_virtual (k := 1) (by decide +kernel) (by decide +kernel) (Nat.le_of_ble_eq_true rfl) (Nat.le_of_ble_eq_true rfl) rfl rfl d40_58
theorem d40_61 : decode (q_code 40) 61 = .ok (.putfield 45, 3) := by decide +kernel
theorem gR_readThing_61 {Q : q_R} {M : q_M} {r : List Value} {a0 : Nat} {s0 : Int32} {s1 : Nat} : q_g 40 none Q 61 [some (.ref a0)] (.int s0 :: .ref s1 :: r) M = (q_isC 2 s1 = true ∧ q_g 40 none Q 64 [some (.ref a0)] (r) (q_put M s1 6 s0)) := r_putI (by decide +kernel) (by decide +kernel) (by decide +kernel) d40_61
theorem d40_64 : decode (q_code 40) 64 = .ok (.aload_n 0, 1) := by decide +kernel
theorem gR_readThing_64 {Q : q_R} {M : q_M} {r : List Value} {a0 : Nat} : q_g 40 none Q 64 [some (.ref a0)] (r) M = q_g 40 none Q 65 [some (.ref a0)] (.ref a0 :: r) M := r_aload_n rfl d40_64
theorem d40_65 : decode (q_code 40) 65 = .ok (.getfield 45, 3) := by decide +kernel
theorem gR_readThing_65 {Q : q_R} {M : q_M} {r : List Value} {a0 : Nat} {s0 : Nat} : q_g 40 none Q 65 [some (.ref a0)] (.ref s0 :: r) M = (q_isC 2 s0 = true ∧ q_g 40 none Q 68 [some (.ref a0)] (.int (M s0 6) :: r) M) := r_getI (by decide +kernel) (by decide +kernel) d40_65
theorem d40_68 : decode (q_code 40) 68 = .ok (.ifCond .lt 7, 3) := by decide +kernel
theorem gR_readThing_68 {Q : q_R} {M : q_M} {r : List Value} {a0 : Nat} {s0 : Int32} : q_g 40 none Q 68 [some (.ref a0)] (.int s0 :: r) M = (if s0 < 0 then q_g 40 none Q 75 [some (.ref a0)] (r) M else q_g 40 none Q 71 [some (.ref a0)] (r) M) := r_if_lt (by decide) (by decide) d40_68
theorem d40_71 : decode (q_code 40) 71 = .ok (.iconst 1, 1) := by decide +kernel
theorem gR_readThing_71 {Q : q_R} {M : q_M} {r : List Value} {a0 : Nat} : q_g 40 none Q 71 [some (.ref a0)] (r) M = q_g 40 none Q 72 [some (.ref a0)] (.int 1 :: r) M := r_iconst (by decide) d40_71
theorem d40_72 : decode (q_code 40) 72 = .ok (.goto 4, 3) := by decide +kernel
theorem gR_readThing_72 {Q : q_R} {M : q_M} {r : List Value} {a0 : Nat} : q_g 40 none Q 72 [some (.ref a0)] (r) M = q_g 40 none Q 76 [some (.ref a0)] (r) M := r_goto (by decide) (by decide) d40_72
theorem d40_75 : decode (q_code 40) 75 = .ok (.iconst 0, 1) := by decide +kernel
theorem gR_readThing_75 {Q : q_R} {M : q_M} {r : List Value} {a0 : Nat} : q_g 40 none Q 75 [some (.ref a0)] (r) M = q_g 40 none Q 76 [some (.ref a0)] (.int 0 :: r) M := r_iconst (by decide) d40_75
theorem d40_76 : decode (q_code 40) 76 = .ok (.ireturn, 1) := by decide +kernel
theorem gR_readThing_76 {Q : q_R} {M : q_M} {a0 : Nat} {s0 : Int32} : q_g 40 none Q 76 [some (.ref a0)] ([.int s0]) M = ((s0 = 0 ∨ s0 = 1) ∧ Q (some (.int s0)) M) := r_zret (r := []) (by decide +kernel) d40_76
theorem e_R_readsWell {Q : q_R} {M : q_M} {a0 : Nat} : q_Run 41 [.ref a0] M Q = q_g 41 none Q 0 [some (.ref a0), none, none] [] M := q_entry (Nat.le_of_ble_eq_true rfl) rfl
theorem d41_0 : decode (q_code 41) 0 = .ok (.aload_n 0, 1) := by decide +kernel
theorem gR_readsWell_0 {Q : q_R} {M : q_M} {r : List Value} {a0 : Nat} {a1 : Option Value} {a2 : Option Value} : q_g 41 none Q 0 [some (.ref a0), a1, a2] (r) M = q_g 41 none Q 1 [some (.ref a0), a1, a2] (.ref a0 :: r) M := r_aload_n rfl d41_0
theorem d41_1 : decode (q_code 41) 1 = .ok (.iconst 0, 1) := by decide +kernel
theorem gR_readsWell_1 {Q : q_R} {M : q_M} {r : List Value} {a0 : Nat} {a1 : Option Value} {a2 : Option Value} : q_g 41 none Q 1 [some (.ref a0), a1, a2] (r) M = q_g 41 none Q 2 [some (.ref a0), a1, a2] (.int 0 :: r) M := r_iconst (by decide) d41_1
theorem d41_2 : decode (q_code 41) 2 = .ok (.putfield 25, 3) := by decide +kernel
theorem gR_readsWell_2 {Q : q_R} {M : q_M} {r : List Value} {a0 : Nat} {a1 : Option Value} {a2 : Option Value} {s0 : Int32} {s1 : Nat} : q_g 41 none Q 2 [some (.ref a0), a1, a2] (.int s0 :: .ref s1 :: r) M = (q_isC 2 s1 = true ∧ q_g 41 none Q 5 [some (.ref a0), a1, a2] (r) (q_put M s1 2 s0)) := r_putI (by decide +kernel) (by decide +kernel) (by decide +kernel) d41_2
theorem d41_5 : decode (q_code 41) 5 = .ok (.aload_n 0, 1) := by decide +kernel
theorem gR_readsWell_5 {Q : q_R} {M : q_M} {r : List Value} {a0 : Nat} {a1 : Option Value} {a2 : Option Value} : q_g 41 none Q 5 [some (.ref a0), a1, a2] (r) M = q_g 41 none Q 6 [some (.ref a0), a1, a2] (.ref a0 :: r) M := r_aload_n rfl d41_5
theorem d41_6 : decode (q_code 41) 6 = .ok (.getfield 15, 3) := by decide +kernel
theorem gR_readsWell_6 {Q : q_R} {M : q_M} {r : List Value} {a0 : Nat} {a1 : Option Value} {a2 : Option Value} {s0 : Nat} : q_g 41 none Q 6 [some (.ref a0), a1, a2] (.ref s0 :: r) M = (q_isC 2 s0 = true ∧ q_g 41 none Q 9 [some (.ref a0), a1, a2] (.int (M s0 1) :: r) M) := r_getI (by decide +kernel) (by decide +kernel) d41_6
theorem d41_9 : decode (q_code 41) 9 = .ok (.ifCond .le 7, 3) := by decide +kernel
theorem gR_readsWell_9 {Q : q_R} {M : q_M} {r : List Value} {a0 : Nat} {a1 : Option Value} {a2 : Option Value} {s0 : Int32} : q_g 41 none Q 9 [some (.ref a0), a1, a2] (.int s0 :: r) M = (if s0 ≤ 0 then q_g 41 none Q 16 [some (.ref a0), a1, a2] (r) M else q_g 41 none Q 12 [some (.ref a0), a1, a2] (r) M) := r_if_le (by decide) (by decide) d41_9
theorem d41_12 : decode (q_code 41) 12 = .ok (.iconst 1, 1) := by decide +kernel
theorem gR_readsWell_12 {Q : q_R} {M : q_M} {r : List Value} {a0 : Nat} {a1 : Option Value} {a2 : Option Value} : q_g 41 none Q 12 [some (.ref a0), a1, a2] (r) M = q_g 41 none Q 13 [some (.ref a0), a1, a2] (.int 1 :: r) M := r_iconst (by decide) d41_12
theorem d41_13 : decode (q_code 41) 13 = .ok (.goto 4, 3) := by decide +kernel
theorem gR_readsWell_13 {Q : q_R} {M : q_M} {r : List Value} {a0 : Nat} {a1 : Option Value} {a2 : Option Value} : q_g 41 none Q 13 [some (.ref a0), a1, a2] (r) M = q_g 41 none Q 17 [some (.ref a0), a1, a2] (r) M := r_goto (by decide) (by decide) d41_13
theorem d41_16 : decode (q_code 41) 16 = .ok (.iconst 0, 1) := by decide +kernel
theorem gR_readsWell_16 {Q : q_R} {M : q_M} {r : List Value} {a0 : Nat} {a1 : Option Value} {a2 : Option Value} : q_g 41 none Q 16 [some (.ref a0), a1, a2] (r) M = q_g 41 none Q 17 [some (.ref a0), a1, a2] (.int 0 :: r) M := r_iconst (by decide) d41_16
theorem d41_17 : decode (q_code 41) 17 = .ok (.istore_n 1, 1) := by decide +kernel
theorem gR_readsWell_17 {Q : q_R} {M : q_M} {r : List Value} {a0 : Nat} {a1 : Option Value} {a2 : Option Value} {s0 : Int32} : q_g 41 none Q 17 [some (.ref a0), a1, a2] (.int s0 :: r) M = q_g 41 none Q 18 [some (.ref a0), some (.int s0), a2] (r) M := r_istore_n (Nat.le_of_ble_eq_true rfl) d41_17
theorem d41_18 : decode (q_code 41) 18 = .ok (.iconst 0, 1) := by decide +kernel
theorem gR_readsWell_18 {Q : q_R} {M : q_M} {r : List Value} {a0 : Nat} {a1 : Int32} {a2 : Option Value} : q_g 41 none Q 18 [some (.ref a0), some (.int a1), a2] (r) M = q_g 41 none Q 19 [some (.ref a0), some (.int a1), a2] (.int 0 :: r) M := r_iconst (by decide) d41_18
theorem d41_19 : decode (q_code 41) 19 = .ok (.istore_n 2, 1) := by decide +kernel
theorem gR_readsWell_19 {Q : q_R} {M : q_M} {r : List Value} {a0 : Nat} {a1 : Int32} {a2 : Option Value} {s0 : Int32} : q_g 41 none Q 19 [some (.ref a0), some (.int a1), a2] (.int s0 :: r) M = q_g 41 none Q 20 [some (.ref a0), some (.int a1), some (.int s0)] (r) M := r_istore_n (Nat.le_of_ble_eq_true rfl) d41_19
theorem d41_20 : decode (q_code 41) 20 = .ok (.iload_n 2, 1) := by decide +kernel
theorem gR_readsWell_20 {Q : q_R} {M : q_M} {r : List Value} {a0 : Nat} {a1 : Int32} {a2 : Int32} : q_g 41 none Q 20 [some (.ref a0), some (.int a1), some (.int a2)] (r) M = q_g 41 none Q 21 [some (.ref a0), some (.int a1), some (.int a2)] (.int a2 :: r) M := r_iload_n rfl d41_20
theorem d41_21 : decode (q_code 41) 21 = .ok (.bipush 96, 2) := by decide +kernel
theorem gR_readsWell_21 {Q : q_R} {M : q_M} {r : List Value} {a0 : Nat} {a1 : Int32} {a2 : Int32} : q_g 41 none Q 21 [some (.ref a0), some (.int a1), some (.int a2)] (r) M = q_g 41 none Q 23 [some (.ref a0), some (.int a1), some (.int a2)] (.int 96 :: r) M := r_bipush (by decide) d41_21
theorem d41_23 : decode (q_code 41) 23 = .ok (.if_icmp .ge 29, 3) := by decide +kernel
theorem gR_readsWell_23 {Q : q_R} {M : q_M} {r : List Value} {a0 : Nat} {a1 : Int32} {a2 : Int32} {s0 : Int32} {s1 : Int32} : q_g 41 none Q 23 [some (.ref a0), some (.int a1), some (.int a2)] (.int s0 :: .int s1 :: r) M = (if s0 ≤ s1 then q_g 41 none Q 52 [some (.ref a0), some (.int a1), some (.int a2)] (r) M else q_g 41 none Q 26 [some (.ref a0), some (.int a1), some (.int a2)] (r) M) := r_icmp_ge (by decide) (by decide) d41_23
theorem d41_26 : decode (q_code 41) 26 = .ok (.iload_n 1, 1) := by decide +kernel
theorem gR_readsWell_26 {Q : q_R} {M : q_M} {r : List Value} {a0 : Nat} {a1 : Int32} {a2 : Int32} : q_g 41 none Q 26 [some (.ref a0), some (.int a1), some (.int a2)] (r) M = q_g 41 none Q 27 [some (.ref a0), some (.int a1), some (.int a2)] (.int a1 :: r) M := r_iload_n rfl d41_26
theorem d41_27 : decode (q_code 41) 27 = .ok (.ifCond .eq 25, 3) := by decide +kernel
theorem gR_readsWell_27 {Q : q_R} {M : q_M} {r : List Value} {a0 : Nat} {a1 : Int32} {a2 : Int32} {s0 : Int32} : q_g 41 none Q 27 [some (.ref a0), some (.int a1), some (.int a2)] (.int s0 :: r) M = (if s0 = 0 then q_g 41 none Q 52 [some (.ref a0), some (.int a1), some (.int a2)] (r) M else q_g 41 none Q 30 [some (.ref a0), some (.int a1), some (.int a2)] (r) M) := r_if_eq (by decide) (by decide) d41_27
theorem d41_30 : decode (q_code 41) 30 = .ok (.aload_n 0, 1) := by decide +kernel
theorem gR_readsWell_30 {Q : q_R} {M : q_M} {r : List Value} {a0 : Nat} {a1 : Int32} {a2 : Int32} : q_g 41 none Q 30 [some (.ref a0), some (.int a1), some (.int a2)] (r) M = q_g 41 none Q 31 [some (.ref a0), some (.int a1), some (.int a2)] (.ref a0 :: r) M := r_aload_n rfl d41_30
theorem d41_31 : decode (q_code 41) 31 = .ok (.getfield 25, 3) := by decide +kernel
theorem gR_readsWell_31 {Q : q_R} {M : q_M} {r : List Value} {a0 : Nat} {a1 : Int32} {a2 : Int32} {s0 : Nat} : q_g 41 none Q 31 [some (.ref a0), some (.int a1), some (.int a2)] (.ref s0 :: r) M = (q_isC 2 s0 = true ∧ q_g 41 none Q 34 [some (.ref a0), some (.int a1), some (.int a2)] (.int (M s0 2) :: r) M) := r_getI (by decide +kernel) (by decide +kernel) d41_31
theorem d41_34 : decode (q_code 41) 34 = .ok (.aload_n 0, 1) := by decide +kernel
theorem gR_readsWell_34 {Q : q_R} {M : q_M} {r : List Value} {a0 : Nat} {a1 : Int32} {a2 : Int32} : q_g 41 none Q 34 [some (.ref a0), some (.int a1), some (.int a2)] (r) M = q_g 41 none Q 35 [some (.ref a0), some (.int a1), some (.int a2)] (.ref a0 :: r) M := r_aload_n rfl d41_34
theorem d41_35 : decode (q_code 41) 35 = .ok (.getfield 15, 3) := by decide +kernel
theorem gR_readsWell_35 {Q : q_R} {M : q_M} {r : List Value} {a0 : Nat} {a1 : Int32} {a2 : Int32} {s0 : Nat} : q_g 41 none Q 35 [some (.ref a0), some (.int a1), some (.int a2)] (.ref s0 :: r) M = (q_isC 2 s0 = true ∧ q_g 41 none Q 38 [some (.ref a0), some (.int a1), some (.int a2)] (.int (M s0 1) :: r) M) := r_getI (by decide +kernel) (by decide +kernel) d41_35
theorem d41_38 : decode (q_code 41) 38 = .ok (.if_icmp .ge 14, 3) := by decide +kernel
theorem gR_readsWell_38 {Q : q_R} {M : q_M} {r : List Value} {a0 : Nat} {a1 : Int32} {a2 : Int32} {s0 : Int32} {s1 : Int32} : q_g 41 none Q 38 [some (.ref a0), some (.int a1), some (.int a2)] (.int s0 :: .int s1 :: r) M = (if s0 ≤ s1 then q_g 41 none Q 52 [some (.ref a0), some (.int a1), some (.int a2)] (r) M else q_g 41 none Q 41 [some (.ref a0), some (.int a1), some (.int a2)] (r) M) := r_icmp_ge (by decide) (by decide) d41_38
theorem d41_41 : decode (q_code 41) 41 = .ok (.aload_n 0, 1) := by decide +kernel
theorem gR_readsWell_41 {Q : q_R} {M : q_M} {r : List Value} {a0 : Nat} {a1 : Int32} {a2 : Int32} : q_g 41 none Q 41 [some (.ref a0), some (.int a1), some (.int a2)] (r) M = q_g 41 none Q 42 [some (.ref a0), some (.int a1), some (.int a2)] (.ref a0 :: r) M := r_aload_n rfl d41_41
theorem d41_42 : decode (q_code 41) 42 = .ok (.invokevirtual 28, 3) := by decide +kernel
theorem gR_readsWell_42 {Q : q_R} {M : q_M} {a0 : Nat} {a1 : Int32} {a2 : Int32} {s0 : Nat} : q_g 41 none Q 42 [some (.ref a0), some (.int a1), some (.int a2)] ([.ref s0]) M = (q_isC 2 s0 = true ∧ q_Run 39 [.ref s0] M (fun v M' => q_g 41 none Q 45 [some (.ref a0), some (.int a1), some (.int a2)] (v.toList ++ []) M')) := r_call_virtual (k := 1) (by decide +kernel) (by decide +kernel) (Nat.le_of_ble_eq_true rfl) (Nat.le_of_ble_eq_true rfl) rfl rfl d41_42
theorem d41_45 : decode (q_code 41) 45 = .ok (.istore_n 1, 1) := by decide +kernel
theorem gR_readsWell_45 {Q : q_R} {M : q_M} {r : List Value} {a0 : Nat} {a1 : Int32} {a2 : Int32} {s0 : Int32} : q_g 41 none Q 45 [some (.ref a0), some (.int a1), some (.int a2)] (.int s0 :: r) M = q_g 41 none Q 46 [some (.ref a0), some (.int s0), some (.int a2)] (r) M := r_istore_n (Nat.le_of_ble_eq_true rfl) d41_45
theorem d41_46 : decode (q_code 41) 46 = .ok (.iinc 2 1, 3) := by decide +kernel
theorem gR_readsWell_46 {Q : q_R} {M : q_M} {r : List Value} {a0 : Nat} {a1 : Int32} {a2 : Int32} : q_g 41 none Q 46 [some (.ref a0), some (.int a1), some (.int a2)] (r) M = q_g 41 none Q 49 [some (.ref a0), some (.int a1), some (.int (a2 + 1))] (r) M := r_iinc rfl (by decide) d41_46
theorem d41_49 : decode (q_code 41) 49 = .ok (.goto (-29), 3) := by decide +kernel
theorem gR_readsWell_49 {Q : q_R} {M : q_M} {r : List Value} {a0 : Nat} {a1 : Int32} {a2 : Int32} : q_g 41 none Q 49 [some (.ref a0), some (.int a1), some (.int a2)] (r) M = q_g 41 none Q 20 [some (.ref a0), some (.int a1), some (.int a2)] (r) M := r_goto (by decide) (by decide) d41_49
theorem d41_52 : decode (q_code 41) 52 = .ok (.iload_n 1, 1) := by decide +kernel
theorem gR_readsWell_52 {Q : q_R} {M : q_M} {r : List Value} {a0 : Nat} {a1 : Int32} {a2 : Int32} : q_g 41 none Q 52 [some (.ref a0), some (.int a1), some (.int a2)] (r) M = q_g 41 none Q 53 [some (.ref a0), some (.int a1), some (.int a2)] (.int a1 :: r) M := r_iload_n rfl d41_52
theorem d41_53 : decode (q_code 41) 53 = .ok (.ireturn, 1) := by decide +kernel
theorem gR_readsWell_53 {Q : q_R} {M : q_M} {a0 : Nat} {a1 : Int32} {a2 : Int32} {s0 : Int32} : q_g 41 none Q 53 [some (.ref a0), some (.int a1), some (.int a2)] ([.int s0]) M = ((s0 = 0 ∨ s0 = 1) ∧ Q (some (.int s0)) M) := r_zret (r := []) (by decide +kernel) d41_53
theorem e_R_tellEach {Q : q_R} {M : q_M} {a0 : Nat} {a1 : Nat} : q_Run 42 [.ref a0, .ref a1] M Q = q_g 42 none Q 0 [some (.ref a0), some (.ref a1), none, none, none] [] M := q_entry (Nat.le_of_ble_eq_true rfl) rfl
theorem d42_0 : decode (q_code 42) 0 = .ok (.aload_n 0, 1) := by decide +kernel
theorem gR_tellEach_0 {Q : q_R} {M : q_M} {r : List Value} {a0 : Nat} {a1 : Nat} {a2 : Option Value} {a3 : Option Value} {a4 : Option Value} : q_g 42 none Q 0 [some (.ref a0), some (.ref a1), a2, a3, a4] (r) M = q_g 42 none Q 1 [some (.ref a0), some (.ref a1), a2, a3, a4] (.ref a0 :: r) M := r_aload_n rfl d42_0
theorem d42_1 : decode (q_code 42) 1 = .ok (.iconst 0, 1) := by decide +kernel
theorem gR_tellEach_1 {Q : q_R} {M : q_M} {r : List Value} {a0 : Nat} {a1 : Nat} {a2 : Option Value} {a3 : Option Value} {a4 : Option Value} : q_g 42 none Q 1 [some (.ref a0), some (.ref a1), a2, a3, a4] (r) M = q_g 42 none Q 2 [some (.ref a0), some (.ref a1), a2, a3, a4] (.int 0 :: r) M := r_iconst (by decide) d42_1
theorem d42_2 : decode (q_code 42) 2 = .ok (.putfield 25, 3) := by decide +kernel
theorem gR_tellEach_2 {Q : q_R} {M : q_M} {r : List Value} {a0 : Nat} {a1 : Nat} {a2 : Option Value} {a3 : Option Value} {a4 : Option Value} {s0 : Int32} {s1 : Nat} : q_g 42 none Q 2 [some (.ref a0), some (.ref a1), a2, a3, a4] (.int s0 :: .ref s1 :: r) M = (q_isC 2 s1 = true ∧ q_g 42 none Q 5 [some (.ref a0), some (.ref a1), a2, a3, a4] (r) (q_put M s1 2 s0)) := r_putI (by decide +kernel) (by decide +kernel) (by decide +kernel) d42_2
theorem d42_5 : decode (q_code 42) 5 = .ok (.iconst 0, 1) := by decide +kernel
theorem gR_tellEach_5 {Q : q_R} {M : q_M} {r : List Value} {a0 : Nat} {a1 : Nat} {a2 : Option Value} {a3 : Option Value} {a4 : Option Value} : q_g 42 none Q 5 [some (.ref a0), some (.ref a1), a2, a3, a4] (r) M = q_g 42 none Q 6 [some (.ref a0), some (.ref a1), a2, a3, a4] (.int 0 :: r) M := r_iconst (by decide) d42_5
theorem d42_6 : decode (q_code 42) 6 = .ok (.istore_n 2, 1) := by decide +kernel
theorem gR_tellEach_6 {Q : q_R} {M : q_M} {r : List Value} {a0 : Nat} {a1 : Nat} {a2 : Option Value} {a3 : Option Value} {a4 : Option Value} {s0 : Int32} : q_g 42 none Q 6 [some (.ref a0), some (.ref a1), a2, a3, a4] (.int s0 :: r) M = q_g 42 none Q 7 [some (.ref a0), some (.ref a1), some (.int s0), a3, a4] (r) M := r_istore_n (Nat.le_of_ble_eq_true rfl) d42_6
theorem d42_7 : decode (q_code 42) 7 = .ok (.iconst 0, 1) := by decide +kernel
theorem gR_tellEach_7 {Q : q_R} {M : q_M} {r : List Value} {a0 : Nat} {a1 : Nat} {a2 : Int32} {a3 : Option Value} {a4 : Option Value} : q_g 42 none Q 7 [some (.ref a0), some (.ref a1), some (.int a2), a3, a4] (r) M = q_g 42 none Q 8 [some (.ref a0), some (.ref a1), some (.int a2), a3, a4] (.int 0 :: r) M := r_iconst (by decide) d42_7
theorem d42_8 : decode (q_code 42) 8 = .ok (.istore_n 3, 1) := by decide +kernel
theorem gR_tellEach_8 {Q : q_R} {M : q_M} {r : List Value} {a0 : Nat} {a1 : Nat} {a2 : Int32} {a3 : Option Value} {a4 : Option Value} {s0 : Int32} : q_g 42 none Q 8 [some (.ref a0), some (.ref a1), some (.int a2), a3, a4] (.int s0 :: r) M = q_g 42 none Q 9 [some (.ref a0), some (.ref a1), some (.int a2), some (.int s0), a4] (r) M := r_istore_n (Nat.le_of_ble_eq_true rfl) d42_8
theorem d42_9 : decode (q_code 42) 9 = .ok (.iload_n 3, 1) := by decide +kernel
theorem gR_tellEach_9 {Q : q_R} {M : q_M} {r : List Value} {a0 : Nat} {a1 : Nat} {a2 : Int32} {a3 : Int32} {a4 : Option Value} : q_g 42 none Q 9 [some (.ref a0), some (.ref a1), some (.int a2), some (.int a3), a4] (r) M = q_g 42 none Q 10 [some (.ref a0), some (.ref a1), some (.int a2), some (.int a3), a4] (.int a3 :: r) M := r_iload_n rfl d42_9
theorem d42_10 : decode (q_code 42) 10 = .ok (.bipush 96, 2) := by decide +kernel
theorem gR_tellEach_10 {Q : q_R} {M : q_M} {r : List Value} {a0 : Nat} {a1 : Nat} {a2 : Int32} {a3 : Int32} {a4 : Option Value} : q_g 42 none Q 10 [some (.ref a0), some (.ref a1), some (.int a2), some (.int a3), a4] (r) M = q_g 42 none Q 12 [some (.ref a0), some (.ref a1), some (.int a2), some (.int a3), a4] (.int 96 :: r) M := r_bipush (by decide) d42_10
theorem d42_12 : decode (q_code 42) 12 = .ok (.if_icmp .ge 51, 3) := by decide +kernel
theorem gR_tellEach_12 {Q : q_R} {M : q_M} {r : List Value} {a0 : Nat} {a1 : Nat} {a2 : Int32} {a3 : Int32} {a4 : Option Value} {s0 : Int32} {s1 : Int32} : q_g 42 none Q 12 [some (.ref a0), some (.ref a1), some (.int a2), some (.int a3), a4] (.int s0 :: .int s1 :: r) M = (if s0 ≤ s1 then q_g 42 none Q 63 [some (.ref a0), some (.ref a1), some (.int a2), some (.int a3), a4] (r) M else q_g 42 none Q 15 [some (.ref a0), some (.ref a1), some (.int a2), some (.int a3), a4] (r) M) := r_icmp_ge (by decide) (by decide) d42_12
theorem d42_15 : decode (q_code 42) 15 = .ok (.aload_n 0, 1) := by decide +kernel
theorem gR_tellEach_15 {Q : q_R} {M : q_M} {r : List Value} {a0 : Nat} {a1 : Nat} {a2 : Int32} {a3 : Int32} {a4 : Option Value} : q_g 42 none Q 15 [some (.ref a0), some (.ref a1), some (.int a2), some (.int a3), a4] (r) M = q_g 42 none Q 16 [some (.ref a0), some (.ref a1), some (.int a2), some (.int a3), a4] (.ref a0 :: r) M := r_aload_n rfl d42_15
theorem d42_16 : decode (q_code 42) 16 = .ok (.getfield 25, 3) := by decide +kernel
theorem gR_tellEach_16 {Q : q_R} {M : q_M} {r : List Value} {a0 : Nat} {a1 : Nat} {a2 : Int32} {a3 : Int32} {a4 : Option Value} {s0 : Nat} : q_g 42 none Q 16 [some (.ref a0), some (.ref a1), some (.int a2), some (.int a3), a4] (.ref s0 :: r) M = (q_isC 2 s0 = true ∧ q_g 42 none Q 19 [some (.ref a0), some (.ref a1), some (.int a2), some (.int a3), a4] (.int (M s0 2) :: r) M) := r_getI (by decide +kernel) (by decide +kernel) d42_16
theorem d42_19 : decode (q_code 42) 19 = .ok (.aload_n 0, 1) := by decide +kernel
theorem gR_tellEach_19 {Q : q_R} {M : q_M} {r : List Value} {a0 : Nat} {a1 : Nat} {a2 : Int32} {a3 : Int32} {a4 : Option Value} : q_g 42 none Q 19 [some (.ref a0), some (.ref a1), some (.int a2), some (.int a3), a4] (r) M = q_g 42 none Q 20 [some (.ref a0), some (.ref a1), some (.int a2), some (.int a3), a4] (.ref a0 :: r) M := r_aload_n rfl d42_19
theorem d42_20 : decode (q_code 42) 20 = .ok (.getfield 15, 3) := by decide +kernel
theorem gR_tellEach_20 {Q : q_R} {M : q_M} {r : List Value} {a0 : Nat} {a1 : Nat} {a2 : Int32} {a3 : Int32} {a4 : Option Value} {s0 : Nat} : q_g 42 none Q 20 [some (.ref a0), some (.ref a1), some (.int a2), some (.int a3), a4] (.ref s0 :: r) M = (q_isC 2 s0 = true ∧ q_g 42 none Q 23 [some (.ref a0), some (.ref a1), some (.int a2), some (.int a3), a4] (.int (M s0 1) :: r) M) := r_getI (by decide +kernel) (by decide +kernel) d42_20
theorem d42_23 : decode (q_code 42) 23 = .ok (.if_icmp .ge 40, 3) := by decide +kernel
theorem gR_tellEach_23 {Q : q_R} {M : q_M} {r : List Value} {a0 : Nat} {a1 : Nat} {a2 : Int32} {a3 : Int32} {a4 : Option Value} {s0 : Int32} {s1 : Int32} : q_g 42 none Q 23 [some (.ref a0), some (.ref a1), some (.int a2), some (.int a3), a4] (.int s0 :: .int s1 :: r) M = (if s0 ≤ s1 then q_g 42 none Q 63 [some (.ref a0), some (.ref a1), some (.int a2), some (.int a3), a4] (r) M else q_g 42 none Q 26 [some (.ref a0), some (.ref a1), some (.int a2), some (.int a3), a4] (r) M) := r_icmp_ge (by decide) (by decide) d42_23
theorem d42_26 : decode (q_code 42) 26 = .ok (.aload_n 0, 1) := by decide +kernel
theorem gR_tellEach_26 {Q : q_R} {M : q_M} {r : List Value} {a0 : Nat} {a1 : Nat} {a2 : Int32} {a3 : Int32} {a4 : Option Value} : q_g 42 none Q 26 [some (.ref a0), some (.ref a1), some (.int a2), some (.int a3), a4] (r) M = q_g 42 none Q 27 [some (.ref a0), some (.ref a1), some (.int a2), some (.int a3), a4] (.ref a0 :: r) M := r_aload_n rfl d42_26
theorem d42_27 : decode (q_code 42) 27 = .ok (.getfield 25, 3) := by decide +kernel
theorem gR_tellEach_27 {Q : q_R} {M : q_M} {r : List Value} {a0 : Nat} {a1 : Nat} {a2 : Int32} {a3 : Int32} {a4 : Option Value} {s0 : Nat} : q_g 42 none Q 27 [some (.ref a0), some (.ref a1), some (.int a2), some (.int a3), a4] (.ref s0 :: r) M = (q_isC 2 s0 = true ∧ q_g 42 none Q 30 [some (.ref a0), some (.ref a1), some (.int a2), some (.int a3), a4] (.int (M s0 2) :: r) M) := r_getI (by decide +kernel) (by decide +kernel) d42_27
theorem d42_30 : decode (q_code 42) 30 = .ok (.istore 4, 2) := by decide +kernel
theorem gR_tellEach_30 {Q : q_R} {M : q_M} {r : List Value} {a0 : Nat} {a1 : Nat} {a2 : Int32} {a3 : Int32} {a4 : Option Value} {s0 : Int32} : q_g 42 none Q 30 [some (.ref a0), some (.ref a1), some (.int a2), some (.int a3), a4] (.int s0 :: r) M = q_g 42 none Q 32 [some (.ref a0), some (.ref a1), some (.int a2), some (.int a3), some (.int s0)] (r) M := r_istore (Nat.le_of_ble_eq_true rfl) d42_30
theorem d42_32 : decode (q_code 42) 32 = .ok (.aload_n 0, 1) := by decide +kernel
theorem gR_tellEach_32 {Q : q_R} {M : q_M} {r : List Value} {a0 : Nat} {a1 : Nat} {a2 : Int32} {a3 : Int32} {a4 : Int32} : q_g 42 none Q 32 [some (.ref a0), some (.ref a1), some (.int a2), some (.int a3), some (.int a4)] (r) M = q_g 42 none Q 33 [some (.ref a0), some (.ref a1), some (.int a2), some (.int a3), some (.int a4)] (.ref a0 :: r) M := r_aload_n rfl d42_32
theorem d42_33 : decode (q_code 42) 33 = .ok (.invokevirtual 28, 3) := by decide +kernel
theorem gR_tellEach_33 {Q : q_R} {M : q_M} {a0 : Nat} {a1 : Nat} {a2 : Int32} {a3 : Int32} {a4 : Int32} {s0 : Nat} : q_g 42 none Q 33 [some (.ref a0), some (.ref a1), some (.int a2), some (.int a3), some (.int a4)] ([.ref s0]) M = (q_isC 2 s0 = true ∧ q_Run 39 [.ref s0] M (fun v M' => q_g 42 none Q 36 [some (.ref a0), some (.ref a1), some (.int a2), some (.int a3), some (.int a4)] (v.toList ++ []) M')) := r_call_virtual (k := 1) (by decide +kernel) (by decide +kernel) (Nat.le_of_ble_eq_true rfl) (Nat.le_of_ble_eq_true rfl) rfl rfl d42_33
theorem d42_36 : decode (q_code 42) 36 = .ok (.ifCond .eq 11, 3) := by decide +kernel
theorem gR_tellEach_36 {Q : q_R} {M : q_M} {r : List Value} {a0 : Nat} {a1 : Nat} {a2 : Int32} {a3 : Int32} {a4 : Int32} {s0 : Int32} : q_g 42 none Q 36 [some (.ref a0), some (.ref a1), some (.int a2), some (.int a3), some (.int a4)] (.int s0 :: r) M = (if s0 = 0 then q_g 42 none Q 47 [some (.ref a0), some (.ref a1), some (.int a2), some (.int a3), some (.int a4)] (r) M else q_g 42 none Q 39 [some (.ref a0), some (.ref a1), some (.int a2), some (.int a3), some (.int a4)] (r) M) := r_if_eq (by decide) (by decide) d42_36
theorem d42_39 : decode (q_code 42) 39 = .ok (.aload_n 0, 1) := by decide +kernel
theorem gR_tellEach_39 {Q : q_R} {M : q_M} {r : List Value} {a0 : Nat} {a1 : Nat} {a2 : Int32} {a3 : Int32} {a4 : Int32} : q_g 42 none Q 39 [some (.ref a0), some (.ref a1), some (.int a2), some (.int a3), some (.int a4)] (r) M = q_g 42 none Q 40 [some (.ref a0), some (.ref a1), some (.int a2), some (.int a3), some (.int a4)] (.ref a0 :: r) M := r_aload_n rfl d42_39
theorem d42_40 : decode (q_code 42) 40 = .ok (.aload_n 1, 1) := by decide +kernel
theorem gR_tellEach_40 {Q : q_R} {M : q_M} {r : List Value} {a0 : Nat} {a1 : Nat} {a2 : Int32} {a3 : Int32} {a4 : Int32} : q_g 42 none Q 40 [some (.ref a0), some (.ref a1), some (.int a2), some (.int a3), some (.int a4)] (r) M = q_g 42 none Q 41 [some (.ref a0), some (.ref a1), some (.int a2), some (.int a3), some (.int a4)] (.ref a1 :: r) M := r_aload_n rfl d42_40
theorem d42_41 : decode (q_code 42) 41 = .ok (.invokevirtual 32, 3) := by decide +kernel
theorem gR_tellEach_41 {Q : q_R} {M : q_M} {a0 : Nat} {a1 : Nat} {a2 : Int32} {a3 : Int32} {a4 : Int32} {s0 : Nat} {s1 : Nat} : q_g 42 none Q 41 [some (.ref a0), some (.ref a1), some (.int a2), some (.int a3), some (.int a4)] ([.ref s0, .ref s1]) M = (q_isC 2 s1 = true ∧ q_Run 43 [.ref s1, .ref s0] M (fun v M' => q_g 42 none Q 44 [some (.ref a0), some (.ref a1), some (.int a2), some (.int a3), some (.int a4)] (v.toList ++ []) M')) := r_call_virtual (k := 2) (by decide +kernel) (by decide +kernel) (Nat.le_of_ble_eq_true rfl) (Nat.le_of_ble_eq_true rfl) rfl rfl d42_41
theorem d42_44 : decode (q_code 42) 44 = .ok (.ifCond .ne 10, 3) := by decide +kernel
theorem gR_tellEach_44 {Q : q_R} {M : q_M} {r : List Value} {a0 : Nat} {a1 : Nat} {a2 : Int32} {a3 : Int32} {a4 : Int32} {s0 : Int32} : q_g 42 none Q 44 [some (.ref a0), some (.ref a1), some (.int a2), some (.int a3), some (.int a4)] (.int s0 :: r) M = (if ¬ s0 = 0 then q_g 42 none Q 54 [some (.ref a0), some (.ref a1), some (.int a2), some (.int a3), some (.int a4)] (r) M else q_g 42 none Q 47 [some (.ref a0), some (.ref a1), some (.int a2), some (.int a3), some (.int a4)] (r) M) := r_if_ne (by decide) (by decide) d42_44
theorem d42_47 : decode (q_code 42) 47 = .ok (.sipush (-2000), 3) := by decide +kernel
theorem gR_tellEach_47 {Q : q_R} {M : q_M} {r : List Value} {a0 : Nat} {a1 : Nat} {a2 : Int32} {a3 : Int32} {a4 : Int32} : q_g 42 none Q 47 [some (.ref a0), some (.ref a1), some (.int a2), some (.int a3), some (.int a4)] (r) M = q_g 42 none Q 50 [some (.ref a0), some (.ref a1), some (.int a2), some (.int a3), some (.int a4)] (.int (-2000) :: r) M := r_sipush (by decide) d42_47
theorem d42_50 : decode (q_code 42) 50 = .ok (.iload 4, 2) := by decide +kernel
theorem gR_tellEach_50 {Q : q_R} {M : q_M} {r : List Value} {a0 : Nat} {a1 : Nat} {a2 : Int32} {a3 : Int32} {a4 : Int32} : q_g 42 none Q 50 [some (.ref a0), some (.ref a1), some (.int a2), some (.int a3), some (.int a4)] (r) M = q_g 42 none Q 52 [some (.ref a0), some (.ref a1), some (.int a2), some (.int a3), some (.int a4)] (.int a4 :: r) M := r_iload rfl d42_50
theorem d42_52 : decode (q_code 42) 52 = .ok (.isub, 1) := by decide +kernel
theorem gR_tellEach_52 {Q : q_R} {M : q_M} {r : List Value} {a0 : Nat} {a1 : Nat} {a2 : Int32} {a3 : Int32} {a4 : Int32} {s0 : Int32} {s1 : Int32} : q_g 42 none Q 52 [some (.ref a0), some (.ref a1), some (.int a2), some (.int a3), some (.int a4)] (.int s0 :: .int s1 :: r) M = q_g 42 none Q 53 [some (.ref a0), some (.ref a1), some (.int a2), some (.int a3), some (.int a4)] (.int (s1 - s0) :: r) M := r_isub d42_52
theorem d42_53 : decode (q_code 42) 53 = .ok (.ireturn, 1) := by decide +kernel
theorem gR_tellEach_53 {Q : q_R} {M : q_M} {a0 : Nat} {a1 : Nat} {a2 : Int32} {a3 : Int32} {a4 : Int32} {s0 : Int32} : q_g 42 none Q 53 [some (.ref a0), some (.ref a1), some (.int a2), some (.int a3), some (.int a4)] ([.int s0]) M = Q (some (.int s0)) M := r_iret (r := []) (by decide +kernel) d42_53
theorem d42_54 : decode (q_code 42) 54 = .ok (.iinc 2 1, 3) := by decide +kernel
theorem gR_tellEach_54 {Q : q_R} {M : q_M} {r : List Value} {a0 : Nat} {a1 : Nat} {a2 : Int32} {a3 : Int32} {a4 : Int32} : q_g 42 none Q 54 [some (.ref a0), some (.ref a1), some (.int a2), some (.int a3), some (.int a4)] (r) M = q_g 42 none Q 57 [some (.ref a0), some (.ref a1), some (.int (a2 + 1)), some (.int a3), some (.int a4)] (r) M := r_iinc rfl (by decide) d42_54
theorem d42_57 : decode (q_code 42) 57 = .ok (.iinc 3 1, 3) := by decide +kernel
theorem gR_tellEach_57 {Q : q_R} {M : q_M} {r : List Value} {a0 : Nat} {a1 : Nat} {a2 : Int32} {a3 : Int32} {a4 : Int32} : q_g 42 none Q 57 [some (.ref a0), some (.ref a1), some (.int a2), some (.int a3), some (.int a4)] (r) M = q_g 42 none Q 60 [some (.ref a0), some (.ref a1), some (.int a2), some (.int (a3 + 1)), some (.int a4)] (r) M := r_iinc rfl (by decide) d42_57
theorem d42_60 : decode (q_code 42) 60 = .ok (.goto (-51), 3) := by decide +kernel
theorem gR_tellEach_60 {Q : q_R} {M : q_M} {r : List Value} {a0 : Nat} {a1 : Nat} {a2 : Int32} {a3 : Int32} {a4 : Int32} : q_g 42 none Q 60 [some (.ref a0), some (.ref a1), some (.int a2), some (.int a3), some (.int a4)] (r) M = q_g 42 none Q 9 [some (.ref a0), some (.ref a1), some (.int a2), some (.int a3), some (.int a4)] (r) M := r_goto (by decide) (by decide) d42_60
theorem d42_63 : decode (q_code 42) 63 = .ok (.iload_n 2, 1) := by decide +kernel
theorem gR_tellEach_63 {Q : q_R} {M : q_M} {r : List Value} {a0 : Nat} {a1 : Nat} {a2 : Int32} {a3 : Int32} {a4 : Option Value} : q_g 42 none Q 63 [some (.ref a0), some (.ref a1), some (.int a2), some (.int a3), a4] (r) M = q_g 42 none Q 64 [some (.ref a0), some (.ref a1), some (.int a2), some (.int a3), a4] (.int a2 :: r) M := r_iload_n rfl d42_63
theorem d42_64 : decode (q_code 42) 64 = .ok (.ireturn, 1) := by decide +kernel
theorem gR_tellEach_64 {Q : q_R} {M : q_M} {a0 : Nat} {a1 : Nat} {a2 : Int32} {a3 : Int32} {a4 : Option Value} {s0 : Int32} : q_g 42 none Q 64 [some (.ref a0), some (.ref a1), some (.int a2), some (.int a3), a4] ([.int s0]) M = Q (some (.int s0)) M := r_iret (r := []) (by decide +kernel) d42_64
theorem e_R_tellOne {Q : q_R} {M : q_M} {a0 : Nat} {a1 : Nat} : q_Run 43 [.ref a0, .ref a1] M Q = q_g 43 none Q 0 [some (.ref a0), some (.ref a1)] [] M := q_entry (Nat.le_of_ble_eq_true rfl) rfl
theorem d43_0 : decode (q_code 43) 0 = .ok (.aload_n 0, 1) := by decide +kernel
theorem gR_tellOne_0 {Q : q_R} {M : q_M} {r : List Value} {a0 : Nat} {a1 : Nat} : q_g 43 none Q 0 [some (.ref a0), some (.ref a1)] (r) M = q_g 43 none Q 1 [some (.ref a0), some (.ref a1)] (.ref a0 :: r) M := r_aload_n rfl d43_0
theorem d43_1 : decode (q_code 43) 1 = .ok (.getfield 36, 3) := by decide +kernel
theorem gR_tellOne_1 {Q : q_R} {M : q_M} {r : List Value} {a0 : Nat} {a1 : Nat} {s0 : Nat} : q_g 43 none Q 1 [some (.ref a0), some (.ref a1)] (.ref s0 :: r) M = (q_isC 2 s0 = true ∧ q_g 43 none Q 4 [some (.ref a0), some (.ref a1)] (.int (M s0 3) :: r) M) := r_getI (by decide +kernel) (by decide +kernel) d43_1
theorem d43_4 : decode (q_code 43) 4 = .ok (.bipush 116, 2) := by decide +kernel
theorem gR_tellOne_4 {Q : q_R} {M : q_M} {r : List Value} {a0 : Nat} {a1 : Nat} : q_g 43 none Q 4 [some (.ref a0), some (.ref a1)] (r) M = q_g 43 none Q 6 [some (.ref a0), some (.ref a1)] (.int 116 :: r) M := r_bipush (by decide) d43_4
theorem d43_6 : decode (q_code 43) 6 = .ok (.if_icmp .ne 20, 3) := by decide +kernel
theorem gR_tellOne_6 {Q : q_R} {M : q_M} {r : List Value} {a0 : Nat} {a1 : Nat} {s0 : Int32} {s1 : Int32} : q_g 43 none Q 6 [some (.ref a0), some (.ref a1)] (.int s0 :: .int s1 :: r) M = (if ¬ s1 = s0 then q_g 43 none Q 26 [some (.ref a0), some (.ref a1)] (r) M else q_g 43 none Q 9 [some (.ref a0), some (.ref a1)] (r) M) := r_icmp_ne (by decide) (by decide) d43_6
theorem d43_9 : decode (q_code 43) 9 = .ok (.aload_n 1, 1) := by decide +kernel
theorem gR_tellOne_9 {Q : q_R} {M : q_M} {r : List Value} {a0 : Nat} {a1 : Nat} : q_g 43 none Q 9 [some (.ref a0), some (.ref a1)] (r) M = q_g 43 none Q 10 [some (.ref a0), some (.ref a1)] (.ref a1 :: r) M := r_aload_n rfl d43_9
theorem d43_10 : decode (q_code 43) 10 = .ok (.aload_n 0, 1) := by decide +kernel
theorem gR_tellOne_10 {Q : q_R} {M : q_M} {r : List Value} {a0 : Nat} {a1 : Nat} : q_g 43 none Q 10 [some (.ref a0), some (.ref a1)] (r) M = q_g 43 none Q 11 [some (.ref a0), some (.ref a1)] (.ref a0 :: r) M := r_aload_n rfl d43_10
theorem d43_11 : decode (q_code 43) 11 = .ok (.getfield 39, 3) := by decide +kernel
theorem gR_tellOne_11 {Q : q_R} {M : q_M} {r : List Value} {a0 : Nat} {a1 : Nat} {s0 : Nat} : q_g 43 none Q 11 [some (.ref a0), some (.ref a1)] (.ref s0 :: r) M = (q_isC 2 s0 = true ∧ q_g 43 none Q 14 [some (.ref a0), some (.ref a1)] (.int (M s0 4) :: r) M) := r_getI (by decide +kernel) (by decide +kernel) d43_11
theorem d43_14 : decode (q_code 43) 14 = .ok (.aload_n 0, 1) := by decide +kernel
theorem gR_tellOne_14 {Q : q_R} {M : q_M} {r : List Value} {a0 : Nat} {a1 : Nat} : q_g 43 none Q 14 [some (.ref a0), some (.ref a1)] (r) M = q_g 43 none Q 15 [some (.ref a0), some (.ref a1)] (.ref a0 :: r) M := r_aload_n rfl d43_14
theorem d43_15 : decode (q_code 43) 15 = .ok (.getfield 42, 3) := by decide +kernel
theorem gR_tellOne_15 {Q : q_R} {M : q_M} {r : List Value} {a0 : Nat} {a1 : Nat} {s0 : Nat} : q_g 43 none Q 15 [some (.ref a0), some (.ref a1)] (.ref s0 :: r) M = (q_isC 2 s0 = true ∧ q_g 43 none Q 18 [some (.ref a0), some (.ref a1)] (.int (M s0 5) :: r) M) := r_getI (by decide +kernel) (by decide +kernel) d43_15
theorem d43_18 : decode (q_code 43) 18 = .ok (.aload_n 0, 1) := by decide +kernel
theorem gR_tellOne_18 {Q : q_R} {M : q_M} {r : List Value} {a0 : Nat} {a1 : Nat} : q_g 43 none Q 18 [some (.ref a0), some (.ref a1)] (r) M = q_g 43 none Q 19 [some (.ref a0), some (.ref a1)] (.ref a0 :: r) M := r_aload_n rfl d43_18
theorem d43_19 : decode (q_code 43) 19 = .ok (.getfield 45, 3) := by decide +kernel
theorem gR_tellOne_19 {Q : q_R} {M : q_M} {r : List Value} {a0 : Nat} {a1 : Nat} {s0 : Nat} : q_g 43 none Q 19 [some (.ref a0), some (.ref a1)] (.ref s0 :: r) M = (q_isC 2 s0 = true ∧ q_g 43 none Q 22 [some (.ref a0), some (.ref a1)] (.int (M s0 6) :: r) M) := r_getI (by decide +kernel) (by decide +kernel) d43_19
theorem d43_22 : decode (q_code 43) 22 = .ok (.invokevirtual 48, 3) := by decide +kernel
theorem gR_tellOne_22 {Q : q_R} {M : q_M} {a0 : Nat} {a1 : Nat} {s0 : Int32} {s1 : Int32} {s2 : Int32} {s3 : Nat} : q_g 43 none Q 22 [some (.ref a0), some (.ref a1)] ([.int s0, .int s1, .int s2, .ref s3]) M = (q_isC 0 s3 = true ∧ q_Run 3 [.ref s3, .int s2, .int s1, .int s0] M (fun v M' => q_g 43 none Q 25 [some (.ref a0), some (.ref a1)] (v.toList ++ []) M')) := r_call_virtual (k := 4) (by decide +kernel) (by decide +kernel) (Nat.le_of_ble_eq_true rfl) (Nat.le_of_ble_eq_true rfl) rfl rfl d43_22
theorem d43_25 : decode (q_code 43) 25 = .ok (.ireturn, 1) := by decide +kernel
theorem gR_tellOne_25 {Q : q_R} {M : q_M} {a0 : Nat} {a1 : Nat} {s0 : Int32} : q_g 43 none Q 25 [some (.ref a0), some (.ref a1)] ([.int s0]) M = ((s0 = 0 ∨ s0 = 1) ∧ Q (some (.int s0)) M) := r_zret (r := []) (by decide +kernel) d43_25
theorem d43_26 : decode (q_code 43) 26 = .ok (.aload_n 1, 1) := by decide +kernel
theorem gR_tellOne_26 {Q : q_R} {M : q_M} {r : List Value} {a0 : Nat} {a1 : Nat} : q_g 43 none Q 26 [some (.ref a0), some (.ref a1)] (r) M = q_g 43 none Q 27 [some (.ref a0), some (.ref a1)] (.ref a1 :: r) M := r_aload_n rfl d43_26
theorem d43_27 : decode (q_code 43) 27 = .ok (.aload_n 0, 1) := by decide +kernel
theorem gR_tellOne_27 {Q : q_R} {M : q_M} {r : List Value} {a0 : Nat} {a1 : Nat} : q_g 43 none Q 27 [some (.ref a0), some (.ref a1)] (r) M = q_g 43 none Q 28 [some (.ref a0), some (.ref a1)] (.ref a0 :: r) M := r_aload_n rfl d43_27
theorem d43_28 : decode (q_code 43) 28 = .ok (.getfield 42, 3) := by decide +kernel
theorem gR_tellOne_28 {Q : q_R} {M : q_M} {r : List Value} {a0 : Nat} {a1 : Nat} {s0 : Nat} : q_g 43 none Q 28 [some (.ref a0), some (.ref a1)] (.ref s0 :: r) M = (q_isC 2 s0 = true ∧ q_g 43 none Q 31 [some (.ref a0), some (.ref a1)] (.int (M s0 5) :: r) M) := r_getI (by decide +kernel) (by decide +kernel) d43_28
theorem d43_31 : decode (q_code 43) 31 = .ok (.invokevirtual 54, 3) := by decide +kernel
theorem gR_tellOne_31 {Q : q_R} {M : q_M} {a0 : Nat} {a1 : Nat} {s0 : Int32} {s1 : Nat} : q_g 43 none Q 31 [some (.ref a0), some (.ref a1)] ([.int s0, .ref s1]) M = (q_isC 0 s1 = true ∧ q_Run 11 [.ref s1, .int s0] M (fun v M' => q_g 43 none Q 34 [some (.ref a0), some (.ref a1)] (v.toList ++ []) M')) := r_call_virtual (k := 2) (by decide +kernel) (by decide +kernel) (Nat.le_of_ble_eq_true rfl) (Nat.le_of_ble_eq_true rfl) rfl rfl d43_31
theorem d43_34 : decode (q_code 43) 34 = .ok (.ifCond .ne 5, 3) := by decide +kernel
theorem gR_tellOne_34 {Q : q_R} {M : q_M} {r : List Value} {a0 : Nat} {a1 : Nat} {s0 : Int32} : q_g 43 none Q 34 [some (.ref a0), some (.ref a1)] (.int s0 :: r) M = (if ¬ s0 = 0 then q_g 43 none Q 39 [some (.ref a0), some (.ref a1)] (r) M else q_g 43 none Q 37 [some (.ref a0), some (.ref a1)] (r) M) := r_if_ne (by decide) (by decide) d43_34
theorem d43_37 : decode (q_code 43) 37 = .ok (.iconst 0, 1) := by decide +kernel
theorem gR_tellOne_37 {Q : q_R} {M : q_M} {r : List Value} {a0 : Nat} {a1 : Nat} : q_g 43 none Q 37 [some (.ref a0), some (.ref a1)] (r) M = q_g 43 none Q 38 [some (.ref a0), some (.ref a1)] (.int 0 :: r) M := r_iconst (by decide) d43_37
theorem d43_38 : decode (q_code 43) 38 = .ok (.ireturn, 1) := by decide +kernel
theorem gR_tellOne_38 {Q : q_R} {M : q_M} {a0 : Nat} {a1 : Nat} {s0 : Int32} : q_g 43 none Q 38 [some (.ref a0), some (.ref a1)] ([.int s0]) M = ((s0 = 0 ∨ s0 = 1) ∧ Q (some (.int s0)) M) := r_zret (r := []) (by decide +kernel) d43_38
theorem d43_39 : decode (q_code 43) 39 = .ok (.aload_n 0, 1) := by decide +kernel
theorem gR_tellOne_39 {Q : q_R} {M : q_M} {r : List Value} {a0 : Nat} {a1 : Nat} : q_g 43 none Q 39 [some (.ref a0), some (.ref a1)] (r) M = q_g 43 none Q 40 [some (.ref a0), some (.ref a1)] (.ref a0 :: r) M := r_aload_n rfl d43_39
theorem d43_40 : decode (q_code 43) 40 = .ok (.getfield 36, 3) := by decide +kernel
theorem gR_tellOne_40 {Q : q_R} {M : q_M} {r : List Value} {a0 : Nat} {a1 : Nat} {s0 : Nat} : q_g 43 none Q 40 [some (.ref a0), some (.ref a1)] (.ref s0 :: r) M = (q_isC 2 s0 = true ∧ q_g 43 none Q 43 [some (.ref a0), some (.ref a1)] (.int (M s0 3) :: r) M) := r_getI (by decide +kernel) (by decide +kernel) d43_40
theorem d43_43 : decode (q_code 43) 43 = .ok (.bipush 99, 2) := by decide +kernel
theorem gR_tellOne_43 {Q : q_R} {M : q_M} {r : List Value} {a0 : Nat} {a1 : Nat} : q_g 43 none Q 43 [some (.ref a0), some (.ref a1)] (r) M = q_g 43 none Q 45 [some (.ref a0), some (.ref a1)] (.int 99 :: r) M := r_bipush (by decide) d43_43
theorem d43_45 : decode (q_code 43) 45 = .ok (.if_icmp .ne 20, 3) := by decide +kernel
theorem gR_tellOne_45 {Q : q_R} {M : q_M} {r : List Value} {a0 : Nat} {a1 : Nat} {s0 : Int32} {s1 : Int32} : q_g 43 none Q 45 [some (.ref a0), some (.ref a1)] (.int s0 :: .int s1 :: r) M = (if ¬ s1 = s0 then q_g 43 none Q 65 [some (.ref a0), some (.ref a1)] (r) M else q_g 43 none Q 48 [some (.ref a0), some (.ref a1)] (r) M) := r_icmp_ne (by decide) (by decide) d43_45
theorem d43_48 : decode (q_code 43) 48 = .ok (.aload_n 1, 1) := by decide +kernel
theorem gR_tellOne_48 {Q : q_R} {M : q_M} {r : List Value} {a0 : Nat} {a1 : Nat} : q_g 43 none Q 48 [some (.ref a0), some (.ref a1)] (r) M = q_g 43 none Q 49 [some (.ref a0), some (.ref a1)] (.ref a1 :: r) M := r_aload_n rfl d43_48
theorem d43_49 : decode (q_code 43) 49 = .ok (.getfield 58, 3) := by decide +kernel
theorem gR_tellOne_49 {Q : q_R} {M : q_M} {r : List Value} {a0 : Nat} {a1 : Nat} {s0 : Nat} : q_g 43 none Q 49 [some (.ref a0), some (.ref a1)] (.ref s0 :: r) M = (q_isC 0 s0 = true ∧ q_g 43 none Q 52 [some (.ref a0), some (.ref a1)] (.ref (q_rf s0 3) :: r) M) := r_getR (by decide +kernel) (by decide +kernel) d43_49
theorem d43_52 : decode (q_code 43) 52 = .ok (.aload_n 0, 1) := by decide +kernel
theorem gR_tellOne_52 {Q : q_R} {M : q_M} {r : List Value} {a0 : Nat} {a1 : Nat} : q_g 43 none Q 52 [some (.ref a0), some (.ref a1)] (r) M = q_g 43 none Q 53 [some (.ref a0), some (.ref a1)] (.ref a0 :: r) M := r_aload_n rfl d43_52
theorem d43_53 : decode (q_code 43) 53 = .ok (.getfield 42, 3) := by decide +kernel
theorem gR_tellOne_53 {Q : q_R} {M : q_M} {r : List Value} {a0 : Nat} {a1 : Nat} {s0 : Nat} : q_g 43 none Q 53 [some (.ref a0), some (.ref a1)] (.ref s0 :: r) M = (q_isC 2 s0 = true ∧ q_g 43 none Q 56 [some (.ref a0), some (.ref a1)] (.int (M s0 5) :: r) M) := r_getI (by decide +kernel) (by decide +kernel) d43_53
theorem d43_56 : decode (q_code 43) 56 = .ok (.aload_n 0, 1) := by decide +kernel
theorem gR_tellOne_56 {Q : q_R} {M : q_M} {r : List Value} {a0 : Nat} {a1 : Nat} : q_g 43 none Q 56 [some (.ref a0), some (.ref a1)] (r) M = q_g 43 none Q 57 [some (.ref a0), some (.ref a1)] (.ref a0 :: r) M := r_aload_n rfl d43_56
theorem d43_57 : decode (q_code 43) 57 = .ok (.getfield 45, 3) := by decide +kernel
theorem gR_tellOne_57 {Q : q_R} {M : q_M} {r : List Value} {a0 : Nat} {a1 : Nat} {s0 : Nat} : q_g 43 none Q 57 [some (.ref a0), some (.ref a1)] (.ref s0 :: r) M = (q_isC 2 s0 = true ∧ q_g 43 none Q 60 [some (.ref a0), some (.ref a1)] (.int (M s0 6) :: r) M) := r_getI (by decide +kernel) (by decide +kernel) d43_57
theorem d43_60 : decode (q_code 43) 60 = .ok (.invokestatic 19, 3) := by decide +kernel
theorem gR_tellOne_60 {Q : q_R} {M : q_M} {a0 : Nat} {a1 : Nat} {s0 : Int32} {s1 : Int32} {s2 : Nat} : q_g 43 none Q 60 [some (.ref a0), some (.ref a1)] ([.int s0, .int s1, .ref s2]) M = q_Run 2 [.ref s2, .int s1, .int s0] M (fun v M' => q_g 43 none Q 63 [some (.ref a0), some (.ref a1)] (v.toList ++ []) M') := r_call_static (k := 3) (by decide +kernel) (by decide +kernel) (by decide +kernel) (Nat.le_of_ble_eq_true rfl) (Nat.le_of_ble_eq_true rfl) rfl rfl d43_60
theorem d43_63 : decode (q_code 43) 63 = .ok (.iconst 1, 1) := by decide +kernel
theorem gR_tellOne_63 {Q : q_R} {M : q_M} {r : List Value} {a0 : Nat} {a1 : Nat} : q_g 43 none Q 63 [some (.ref a0), some (.ref a1)] (r) M = q_g 43 none Q 64 [some (.ref a0), some (.ref a1)] (.int 1 :: r) M := r_iconst (by decide) d43_63
theorem d43_64 : decode (q_code 43) 64 = .ok (.ireturn, 1) := by decide +kernel
theorem gR_tellOne_64 {Q : q_R} {M : q_M} {a0 : Nat} {a1 : Nat} {s0 : Int32} : q_g 43 none Q 64 [some (.ref a0), some (.ref a1)] ([.int s0]) M = ((s0 = 0 ∨ s0 = 1) ∧ Q (some (.int s0)) M) := r_zret (r := []) (by decide +kernel) d43_64
theorem d43_65 : decode (q_code 43) 65 = .ok (.aload_n 0, 1) := by decide +kernel
theorem gR_tellOne_65 {Q : q_R} {M : q_M} {r : List Value} {a0 : Nat} {a1 : Nat} : q_g 43 none Q 65 [some (.ref a0), some (.ref a1)] (r) M = q_g 43 none Q 66 [some (.ref a0), some (.ref a1)] (.ref a0 :: r) M := r_aload_n rfl d43_65
theorem d43_66 : decode (q_code 43) 66 = .ok (.getfield 36, 3) := by decide +kernel
theorem gR_tellOne_66 {Q : q_R} {M : q_M} {r : List Value} {a0 : Nat} {a1 : Nat} {s0 : Nat} : q_g 43 none Q 66 [some (.ref a0), some (.ref a1)] (.ref s0 :: r) M = (q_isC 2 s0 = true ∧ q_g 43 none Q 69 [some (.ref a0), some (.ref a1)] (.int (M s0 3) :: r) M) := r_getI (by decide +kernel) (by decide +kernel) d43_66
theorem d43_69 : decode (q_code 43) 69 = .ok (.bipush 104, 2) := by decide +kernel
theorem gR_tellOne_69 {Q : q_R} {M : q_M} {r : List Value} {a0 : Nat} {a1 : Nat} : q_g 43 none Q 69 [some (.ref a0), some (.ref a1)] (r) M = q_g 43 none Q 71 [some (.ref a0), some (.ref a1)] (.int 104 :: r) M := r_bipush (by decide) d43_69
theorem d43_71 : decode (q_code 43) 71 = .ok (.if_icmp .ne 14, 3) := by decide +kernel
theorem gR_tellOne_71 {Q : q_R} {M : q_M} {r : List Value} {a0 : Nat} {a1 : Nat} {s0 : Int32} {s1 : Int32} : q_g 43 none Q 71 [some (.ref a0), some (.ref a1)] (.int s0 :: .int s1 :: r) M = (if ¬ s1 = s0 then q_g 43 none Q 85 [some (.ref a0), some (.ref a1)] (r) M else q_g 43 none Q 74 [some (.ref a0), some (.ref a1)] (r) M) := r_icmp_ne (by decide) (by decide) d43_71
theorem d43_74 : decode (q_code 43) 74 = .ok (.aload_n 1, 1) := by decide +kernel
theorem gR_tellOne_74 {Q : q_R} {M : q_M} {r : List Value} {a0 : Nat} {a1 : Nat} : q_g 43 none Q 74 [some (.ref a0), some (.ref a1)] (r) M = q_g 43 none Q 75 [some (.ref a0), some (.ref a1)] (.ref a1 :: r) M := r_aload_n rfl d43_74
theorem d43_75 : decode (q_code 43) 75 = .ok (.aload_n 0, 1) := by decide +kernel
theorem gR_tellOne_75 {Q : q_R} {M : q_M} {r : List Value} {a0 : Nat} {a1 : Nat} : q_g 43 none Q 75 [some (.ref a0), some (.ref a1)] (r) M = q_g 43 none Q 76 [some (.ref a0), some (.ref a1)] (.ref a0 :: r) M := r_aload_n rfl d43_75
theorem d43_76 : decode (q_code 43) 76 = .ok (.getfield 42, 3) := by decide +kernel
theorem gR_tellOne_76 {Q : q_R} {M : q_M} {r : List Value} {a0 : Nat} {a1 : Nat} {s0 : Nat} : q_g 43 none Q 76 [some (.ref a0), some (.ref a1)] (.ref s0 :: r) M = (q_isC 2 s0 = true ∧ q_g 43 none Q 79 [some (.ref a0), some (.ref a1)] (.int (M s0 5) :: r) M) := r_getI (by decide +kernel) (by decide +kernel) d43_76
theorem d43_79 : decode (q_code 43) 79 = .ok (.invokevirtual 61, 3) := by decide +kernel
theorem gR_tellOne_79 {Q : q_R} {M : q_M} {a0 : Nat} {a1 : Nat} {s0 : Int32} {s1 : Nat} : q_g 43 none Q 79 [some (.ref a0), some (.ref a1)] ([.int s0, .ref s1]) M = (q_isC 0 s1 = true ∧ q_Run 21 [.ref s1, .int s0] M (fun v M' => q_g 43 none Q 82 [some (.ref a0), some (.ref a1)] (v.toList ++ []) M')) := r_call_virtual (k := 2) (by decide +kernel) (by decide +kernel) (Nat.le_of_ble_eq_true rfl) (Nat.le_of_ble_eq_true rfl) rfl rfl d43_79
theorem d43_82 : decode (q_code 43) 82 = .ok (.pop, 1) := by decide +kernel
theorem gR_tellOne_82 {Q : q_R} {M : q_M} {r : List Value} {a0 : Nat} {a1 : Nat} {s0 : Int32} : q_g 43 none Q 82 [some (.ref a0), some (.ref a1)] (.int s0 :: r) M = q_g 43 none Q 83 [some (.ref a0), some (.ref a1)] (r) M := r_pop rfl d43_82
theorem d43_83 : decode (q_code 43) 83 = .ok (.iconst 1, 1) := by decide +kernel
theorem gR_tellOne_83 {Q : q_R} {M : q_M} {r : List Value} {a0 : Nat} {a1 : Nat} : q_g 43 none Q 83 [some (.ref a0), some (.ref a1)] (r) M = q_g 43 none Q 84 [some (.ref a0), some (.ref a1)] (.int 1 :: r) M := r_iconst (by decide) d43_83
theorem d43_84 : decode (q_code 43) 84 = .ok (.ireturn, 1) := by decide +kernel
theorem gR_tellOne_84 {Q : q_R} {M : q_M} {a0 : Nat} {a1 : Nat} {s0 : Int32} : q_g 43 none Q 84 [some (.ref a0), some (.ref a1)] ([.int s0]) M = ((s0 = 0 ∨ s0 = 1) ∧ Q (some (.int s0)) M) := r_zret (r := []) (by decide +kernel) d43_84
theorem d43_85 : decode (q_code 43) 85 = .ok (.aload_n 1, 1) := by decide +kernel
theorem gR_tellOne_85 {Q : q_R} {M : q_M} {r : List Value} {a0 : Nat} {a1 : Nat} : q_g 43 none Q 85 [some (.ref a0), some (.ref a1)] (r) M = q_g 43 none Q 86 [some (.ref a0), some (.ref a1)] (.ref a1 :: r) M := r_aload_n rfl d43_85
theorem d43_86 : decode (q_code 43) 86 = .ok (.aload_n 0, 1) := by decide +kernel
theorem gR_tellOne_86 {Q : q_R} {M : q_M} {r : List Value} {a0 : Nat} {a1 : Nat} : q_g 43 none Q 86 [some (.ref a0), some (.ref a1)] (r) M = q_g 43 none Q 87 [some (.ref a0), some (.ref a1)] (.ref a0 :: r) M := r_aload_n rfl d43_86
theorem d43_87 : decode (q_code 43) 87 = .ok (.getfield 45, 3) := by decide +kernel
theorem gR_tellOne_87 {Q : q_R} {M : q_M} {r : List Value} {a0 : Nat} {a1 : Nat} {s0 : Nat} : q_g 43 none Q 87 [some (.ref a0), some (.ref a1)] (.ref s0 :: r) M = (q_isC 2 s0 = true ∧ q_g 43 none Q 90 [some (.ref a0), some (.ref a1)] (.int (M s0 6) :: r) M) := r_getI (by decide +kernel) (by decide +kernel) d43_87
theorem d43_90 : decode (q_code 43) 90 = .ok (.invokevirtual 54, 3) := by decide +kernel
theorem gR_tellOne_90 {Q : q_R} {M : q_M} {a0 : Nat} {a1 : Nat} {s0 : Int32} {s1 : Nat} : q_g 43 none Q 90 [some (.ref a0), some (.ref a1)] ([.int s0, .ref s1]) M = (q_isC 0 s1 = true ∧ q_Run 11 [.ref s1, .int s0] M (fun v M' => q_g 43 none Q 93 [some (.ref a0), some (.ref a1)] (v.toList ++ []) M')) := r_call_virtual (k := 2) (by decide +kernel) (by decide +kernel) (Nat.le_of_ble_eq_true rfl) (Nat.le_of_ble_eq_true rfl) rfl rfl d43_90
theorem d43_93 : decode (q_code 43) 93 = .ok (.ifCond .eq 14, 3) := by decide +kernel
theorem gR_tellOne_93 {Q : q_R} {M : q_M} {r : List Value} {a0 : Nat} {a1 : Nat} {s0 : Int32} : q_g 43 none Q 93 [some (.ref a0), some (.ref a1)] (.int s0 :: r) M = (if s0 = 0 then q_g 43 none Q 107 [some (.ref a0), some (.ref a1)] (r) M else q_g 43 none Q 96 [some (.ref a0), some (.ref a1)] (r) M) := r_if_eq (by decide) (by decide) d43_93
theorem d43_96 : decode (q_code 43) 96 = .ok (.aload_n 0, 1) := by decide +kernel
theorem gR_tellOne_96 {Q : q_R} {M : q_M} {r : List Value} {a0 : Nat} {a1 : Nat} : q_g 43 none Q 96 [some (.ref a0), some (.ref a1)] (r) M = q_g 43 none Q 97 [some (.ref a0), some (.ref a1)] (.ref a0 :: r) M := r_aload_n rfl d43_96
theorem d43_97 : decode (q_code 43) 97 = .ok (.getfield 42, 3) := by decide +kernel
theorem gR_tellOne_97 {Q : q_R} {M : q_M} {r : List Value} {a0 : Nat} {a1 : Nat} {s0 : Nat} : q_g 43 none Q 97 [some (.ref a0), some (.ref a1)] (.ref s0 :: r) M = (q_isC 2 s0 = true ∧ q_g 43 none Q 100 [some (.ref a0), some (.ref a1)] (.int (M s0 5) :: r) M) := r_getI (by decide +kernel) (by decide +kernel) d43_97
theorem d43_100 : decode (q_code 43) 100 = .ok (.aload_n 0, 1) := by decide +kernel
theorem gR_tellOne_100 {Q : q_R} {M : q_M} {r : List Value} {a0 : Nat} {a1 : Nat} : q_g 43 none Q 100 [some (.ref a0), some (.ref a1)] (r) M = q_g 43 none Q 101 [some (.ref a0), some (.ref a1)] (.ref a0 :: r) M := r_aload_n rfl d43_100
theorem d43_101 : decode (q_code 43) 101 = .ok (.getfield 45, 3) := by decide +kernel
theorem gR_tellOne_101 {Q : q_R} {M : q_M} {r : List Value} {a0 : Nat} {a1 : Nat} {s0 : Nat} : q_g 43 none Q 101 [some (.ref a0), some (.ref a1)] (.ref s0 :: r) M = (q_isC 2 s0 = true ∧ q_g 43 none Q 104 [some (.ref a0), some (.ref a1)] (.int (M s0 6) :: r) M) := r_getI (by decide +kernel) (by decide +kernel) d43_101
theorem d43_104 : decode (q_code 43) 104 = .ok (.if_icmp .ne 5, 3) := by decide +kernel
theorem gR_tellOne_104 {Q : q_R} {M : q_M} {r : List Value} {a0 : Nat} {a1 : Nat} {s0 : Int32} {s1 : Int32} : q_g 43 none Q 104 [some (.ref a0), some (.ref a1)] (.int s0 :: .int s1 :: r) M = (if ¬ s1 = s0 then q_g 43 none Q 109 [some (.ref a0), some (.ref a1)] (r) M else q_g 43 none Q 107 [some (.ref a0), some (.ref a1)] (r) M) := r_icmp_ne (by decide) (by decide) d43_104
theorem d43_107 : decode (q_code 43) 107 = .ok (.iconst 0, 1) := by decide +kernel
theorem gR_tellOne_107 {Q : q_R} {M : q_M} {r : List Value} {a0 : Nat} {a1 : Nat} : q_g 43 none Q 107 [some (.ref a0), some (.ref a1)] (r) M = q_g 43 none Q 108 [some (.ref a0), some (.ref a1)] (.int 0 :: r) M := r_iconst (by decide) d43_107
theorem d43_108 : decode (q_code 43) 108 = .ok (.ireturn, 1) := by decide +kernel
theorem gR_tellOne_108 {Q : q_R} {M : q_M} {a0 : Nat} {a1 : Nat} {s0 : Int32} : q_g 43 none Q 108 [some (.ref a0), some (.ref a1)] ([.int s0]) M = ((s0 = 0 ∨ s0 = 1) ∧ Q (some (.int s0)) M) := r_zret (r := []) (by decide +kernel) d43_108
theorem d43_109 : decode (q_code 43) 109 = .ok (.aload_n 0, 1) := by decide +kernel
theorem gR_tellOne_109 {Q : q_R} {M : q_M} {r : List Value} {a0 : Nat} {a1 : Nat} : q_g 43 none Q 109 [some (.ref a0), some (.ref a1)] (r) M = q_g 43 none Q 110 [some (.ref a0), some (.ref a1)] (.ref a0 :: r) M := r_aload_n rfl d43_109
theorem d43_110 : decode (q_code 43) 110 = .ok (.getfield 36, 3) := by decide +kernel
theorem gR_tellOne_110 {Q : q_R} {M : q_M} {r : List Value} {a0 : Nat} {a1 : Nat} {s0 : Nat} : q_g 43 none Q 110 [some (.ref a0), some (.ref a1)] (.ref s0 :: r) M = (q_isC 2 s0 = true ∧ q_g 43 none Q 113 [some (.ref a0), some (.ref a1)] (.int (M s0 3) :: r) M) := r_getI (by decide +kernel) (by decide +kernel) d43_110
theorem d43_113 : decode (q_code 43) 113 = .ok (.bipush 110, 2) := by decide +kernel
theorem gR_tellOne_113 {Q : q_R} {M : q_M} {r : List Value} {a0 : Nat} {a1 : Nat} : q_g 43 none Q 113 [some (.ref a0), some (.ref a1)] (r) M = q_g 43 none Q 115 [some (.ref a0), some (.ref a1)] (.int 110 :: r) M := r_bipush (by decide) d43_113
theorem d43_115 : decode (q_code 43) 115 = .ok (.if_icmp .ne 19, 3) := by decide +kernel
theorem gR_tellOne_115 {Q : q_R} {M : q_M} {r : List Value} {a0 : Nat} {a1 : Nat} {s0 : Int32} {s1 : Int32} : q_g 43 none Q 115 [some (.ref a0), some (.ref a1)] (.int s0 :: .int s1 :: r) M = (if ¬ s1 = s0 then q_g 43 none Q 134 [some (.ref a0), some (.ref a1)] (r) M else q_g 43 none Q 118 [some (.ref a0), some (.ref a1)] (r) M) := r_icmp_ne (by decide) (by decide) d43_115
theorem d43_118 : decode (q_code 43) 118 = .ok (.aload_n 1, 1) := by decide +kernel
theorem gR_tellOne_118 {Q : q_R} {M : q_M} {r : List Value} {a0 : Nat} {a1 : Nat} : q_g 43 none Q 118 [some (.ref a0), some (.ref a1)] (r) M = q_g 43 none Q 119 [some (.ref a0), some (.ref a1)] (.ref a1 :: r) M := r_aload_n rfl d43_118
theorem d43_119 : decode (q_code 43) 119 = .ok (.aload_n 0, 1) := by decide +kernel
theorem gR_tellOne_119 {Q : q_R} {M : q_M} {r : List Value} {a0 : Nat} {a1 : Nat} : q_g 43 none Q 119 [some (.ref a0), some (.ref a1)] (r) M = q_g 43 none Q 120 [some (.ref a0), some (.ref a1)] (.ref a0 :: r) M := r_aload_n rfl d43_119
theorem d43_120 : decode (q_code 43) 120 = .ok (.getfield 42, 3) := by decide +kernel
theorem gR_tellOne_120 {Q : q_R} {M : q_M} {r : List Value} {a0 : Nat} {a1 : Nat} {s0 : Nat} : q_g 43 none Q 120 [some (.ref a0), some (.ref a1)] (.ref s0 :: r) M = (q_isC 2 s0 = true ∧ q_g 43 none Q 123 [some (.ref a0), some (.ref a1)] (.int (M s0 5) :: r) M) := r_getI (by decide +kernel) (by decide +kernel) d43_120
theorem d43_123 : decode (q_code 43) 123 = .ok (.aload_n 0, 1) := by decide +kernel
theorem gR_tellOne_123 {Q : q_R} {M : q_M} {r : List Value} {a0 : Nat} {a1 : Nat} : q_g 43 none Q 123 [some (.ref a0), some (.ref a1)] (r) M = q_g 43 none Q 124 [some (.ref a0), some (.ref a1)] (.ref a0 :: r) M := r_aload_n rfl d43_123
theorem d43_124 : decode (q_code 43) 124 = .ok (.getfield 45, 3) := by decide +kernel
theorem gR_tellOne_124 {Q : q_R} {M : q_M} {r : List Value} {a0 : Nat} {a1 : Nat} {s0 : Nat} : q_g 43 none Q 124 [some (.ref a0), some (.ref a1)] (.ref s0 :: r) M = (q_isC 2 s0 = true ∧ q_g 43 none Q 127 [some (.ref a0), some (.ref a1)] (.int (M s0 6) :: r) M) := r_getI (by decide +kernel) (by decide +kernel) d43_124
theorem d43_127 : decode (q_code 43) 127 = .ok (.invokevirtual 65, 3) := by decide +kernel
theorem gR_tellOne_127 {Q : q_R} {M : q_M} {a0 : Nat} {a1 : Nat} {s0 : Int32} {s1 : Int32} {s2 : Nat} : q_g 43 none Q 127 [some (.ref a0), some (.ref a1)] ([.int s0, .int s1, .ref s2]) M = (q_isC 0 s2 = true ∧ q_Run 20 [.ref s2, .int s1, .int s0] M (fun v M' => q_g 43 none Q 130 [some (.ref a0), some (.ref a1)] (v.toList ++ []) M')) := r_call_virtual (k := 3) (by decide +kernel) (by decide +kernel) (Nat.le_of_ble_eq_true rfl) (Nat.le_of_ble_eq_true rfl) rfl rfl d43_127
theorem d43_130 : decode (q_code 43) 130 = .ok (.pop, 1) := by decide +kernel
theorem gR_tellOne_130 {Q : q_R} {M : q_M} {r : List Value} {a0 : Nat} {a1 : Nat} {s0 : Int32} : q_g 43 none Q 130 [some (.ref a0), some (.ref a1)] (.int s0 :: r) M = q_g 43 none Q 131 [some (.ref a0), some (.ref a1)] (r) M := r_pop rfl d43_130
theorem d43_131 : decode (q_code 43) 131 = .ok (.goto 16, 3) := by decide +kernel
theorem gR_tellOne_131 {Q : q_R} {M : q_M} {r : List Value} {a0 : Nat} {a1 : Nat} : q_g 43 none Q 131 [some (.ref a0), some (.ref a1)] (r) M = q_g 43 none Q 147 [some (.ref a0), some (.ref a1)] (r) M := r_goto (by decide) (by decide) d43_131
theorem d43_134 : decode (q_code 43) 134 = .ok (.aload_n 1, 1) := by decide +kernel
theorem gR_tellOne_134 {Q : q_R} {M : q_M} {r : List Value} {a0 : Nat} {a1 : Nat} : q_g 43 none Q 134 [some (.ref a0), some (.ref a1)] (r) M = q_g 43 none Q 135 [some (.ref a0), some (.ref a1)] (.ref a1 :: r) M := r_aload_n rfl d43_134
theorem d43_135 : decode (q_code 43) 135 = .ok (.aload_n 0, 1) := by decide +kernel
theorem gR_tellOne_135 {Q : q_R} {M : q_M} {r : List Value} {a0 : Nat} {a1 : Nat} : q_g 43 none Q 135 [some (.ref a0), some (.ref a1)] (r) M = q_g 43 none Q 136 [some (.ref a0), some (.ref a1)] (.ref a0 :: r) M := r_aload_n rfl d43_135
theorem d43_136 : decode (q_code 43) 136 = .ok (.getfield 42, 3) := by decide +kernel
theorem gR_tellOne_136 {Q : q_R} {M : q_M} {r : List Value} {a0 : Nat} {a1 : Nat} {s0 : Nat} : q_g 43 none Q 136 [some (.ref a0), some (.ref a1)] (.ref s0 :: r) M = (q_isC 2 s0 = true ∧ q_g 43 none Q 139 [some (.ref a0), some (.ref a1)] (.int (M s0 5) :: r) M) := r_getI (by decide +kernel) (by decide +kernel) d43_136
theorem d43_139 : decode (q_code 43) 139 = .ok (.aload_n 0, 1) := by decide +kernel
theorem gR_tellOne_139 {Q : q_R} {M : q_M} {r : List Value} {a0 : Nat} {a1 : Nat} : q_g 43 none Q 139 [some (.ref a0), some (.ref a1)] (r) M = q_g 43 none Q 140 [some (.ref a0), some (.ref a1)] (.ref a0 :: r) M := r_aload_n rfl d43_139
theorem d43_140 : decode (q_code 43) 140 = .ok (.getfield 45, 3) := by decide +kernel
theorem gR_tellOne_140 {Q : q_R} {M : q_M} {r : List Value} {a0 : Nat} {a1 : Nat} {s0 : Nat} : q_g 43 none Q 140 [some (.ref a0), some (.ref a1)] (.ref s0 :: r) M = (q_isC 2 s0 = true ∧ q_g 43 none Q 143 [some (.ref a0), some (.ref a1)] (.int (M s0 6) :: r) M) := r_getI (by decide +kernel) (by decide +kernel) d43_140
theorem d43_143 : decode (q_code 43) 143 = .ok (.invokevirtual 69, 3) := by decide +kernel
theorem gR_tellOne_143 {Q : q_R} {M : q_M} {a0 : Nat} {a1 : Nat} {s0 : Int32} {s1 : Int32} {s2 : Nat} : q_g 43 none Q 143 [some (.ref a0), some (.ref a1)] ([.int s0, .int s1, .ref s2]) M = (q_isC 0 s2 = true ∧ q_Run 19 [.ref s2, .int s1, .int s0] M (fun v M' => q_g 43 none Q 146 [some (.ref a0), some (.ref a1)] (v.toList ++ []) M')) := r_call_virtual (k := 3) (by decide +kernel) (by decide +kernel) (Nat.le_of_ble_eq_true rfl) (Nat.le_of_ble_eq_true rfl) rfl rfl d43_143
theorem d43_146 : decode (q_code 43) 146 = .ok (.pop, 1) := by decide +kernel
theorem gR_tellOne_146 {Q : q_R} {M : q_M} {r : List Value} {a0 : Nat} {a1 : Nat} {s0 : Int32} : q_g 43 none Q 146 [some (.ref a0), some (.ref a1)] (.int s0 :: r) M = q_g 43 none Q 147 [some (.ref a0), some (.ref a1)] (r) M := r_pop rfl d43_146
theorem d43_147 : decode (q_code 43) 147 = .ok (.iconst 1, 1) := by decide +kernel
theorem gR_tellOne_147 {Q : q_R} {M : q_M} {r : List Value} {a0 : Nat} {a1 : Nat} : q_g 43 none Q 147 [some (.ref a0), some (.ref a1)] (r) M = q_g 43 none Q 148 [some (.ref a0), some (.ref a1)] (.int 1 :: r) M := r_iconst (by decide) d43_147
theorem d43_148 : decode (q_code 43) 148 = .ok (.ireturn, 1) := by decide +kernel
theorem gR_tellOne_148 {Q : q_R} {M : q_M} {a0 : Nat} {a1 : Nat} {s0 : Int32} : q_g 43 none Q 148 [some (.ref a0), some (.ref a1)] ([.int s0]) M = ((s0 = 0 ∨ s0 = 1) ∧ Q (some (.int s0)) M) := r_zret (r := []) (by decide +kernel) d43_148
