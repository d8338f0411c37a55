/-! the model's object -/
def oX (x : Nat → Int32) (u v : Int64) : pE := .inr (12, [.int (x 0), .ref 35, .ref 36, .ref 37, .int (x 4), .int (x 5), .int (x 6), .ref 38, .ref 39, .ref 40, .ref 41, .ref 42, .int (x 12), .int (x 13), .int (x 14), .int (x 15), .ref 43, .int (x 17), .ref 44, .int (x 19), .int (x 20), .int (x 21), .ref 45, .ref 46, .ref 47, .ref 48, .int (x 26), .ref 49, .ref 50, .ref 51, .int (x 30), .long u, .ref 52, .int (x 33), .int (x 34), .int (x 35), .int (x 36), .int (x 37), .int (x 38), .int (x 39), .ref 53, .ref 54, .ref 55, .ref 56, .long v])
section S40a
variable {x : Nat → Int32} {u v y : Int64} {z : Int32}
theorem xcn : p_cn1 (some (oX x u v)) = 12 := rfl
theorem xok_0 : p_ok1 [12] 0 (some (oX x u v)) = True := eq_true rfl
theorem xfv_0 : p_fv 0 (some (oX x u v)) = .int (x 0) := rfl
theorem xfs_0 : p_fs 0 (.int z) (some (oX x u v)) = oX (upd x 0 z) u v := rfl
theorem xok_1 : p_ok1 [12] 1 (some (oX x u v)) = True := eq_true rfl
theorem xfv_1 : p_fv 1 (some (oX x u v)) = .ref 35 := rfl
theorem xok_2 : p_ok1 [12] 2 (some (oX x u v)) = True := eq_true rfl
theorem xfv_2 : p_fv 2 (some (oX x u v)) = .ref 36 := rfl
theorem xok_3 : p_ok1 [12] 3 (some (oX x u v)) = True := eq_true rfl
theorem xfv_3 : p_fv 3 (some (oX x u v)) = .ref 37 := rfl
theorem xok_4 : p_ok1 [12] 4 (some (oX x u v)) = True := eq_true rfl
theorem xfv_4 : p_fv 4 (some (oX x u v)) = .int (x 4) := rfl
theorem xfs_4 : p_fs 4 (.int z) (some (oX x u v)) = oX (upd x 4 z) u v := rfl
theorem xok_5 : p_ok1 [12] 5 (some (oX x u v)) = True := eq_true rfl
theorem xfv_5 : p_fv 5 (some (oX x u v)) = .int (x 5) := rfl
theorem xfs_5 : p_fs 5 (.int z) (some (oX x u v)) = oX (upd x 5 z) u v := rfl
theorem xok_6 : p_ok1 [12] 6 (some (oX x u v)) = True := eq_true rfl
theorem xfv_6 : p_fv 6 (some (oX x u v)) = .int (x 6) := rfl
theorem xfs_6 : p_fs 6 (.int z) (some (oX x u v)) = oX (upd x 6 z) u v := rfl
theorem xok_7 : p_ok1 [12] 7 (some (oX x u v)) = True := eq_true rfl
theorem xfv_7 : p_fv 7 (some (oX x u v)) = .ref 38 := rfl
theorem xok_8 : p_ok1 [12] 8 (some (oX x u v)) = True := eq_true rfl
theorem xfv_8 : p_fv 8 (some (oX x u v)) = .ref 39 := rfl
theorem xok_9 : p_ok1 [12] 9 (some (oX x u v)) = True := eq_true rfl
theorem xfv_9 : p_fv 9 (some (oX x u v)) = .ref 40 := rfl
theorem xok_10 : p_ok1 [12] 10 (some (oX x u v)) = True := eq_true rfl
theorem xfv_10 : p_fv 10 (some (oX x u v)) = .ref 41 := rfl
theorem xok_11 : p_ok1 [12] 11 (some (oX x u v)) = True := eq_true rfl
theorem xfv_11 : p_fv 11 (some (oX x u v)) = .ref 42 := rfl
theorem xok_12 : p_ok1 [12] 12 (some (oX x u v)) = True := eq_true rfl
theorem xfv_12 : p_fv 12 (some (oX x u v)) = .int (x 12) := rfl
theorem xfs_12 : p_fs 12 (.int z) (some (oX x u v)) = oX (upd x 12 z) u v := rfl
theorem xok_13 : p_ok1 [12] 13 (some (oX x u v)) = True := eq_true rfl
theorem xfv_13 : p_fv 13 (some (oX x u v)) = .int (x 13) := rfl
theorem xfs_13 : p_fs 13 (.int z) (some (oX x u v)) = oX (upd x 13 z) u v := rfl
theorem xok_14 : p_ok1 [12] 14 (some (oX x u v)) = True := eq_true rfl
theorem xfv_14 : p_fv 14 (some (oX x u v)) = .int (x 14) := rfl
theorem xfs_14 : p_fs 14 (.int z) (some (oX x u v)) = oX (upd x 14 z) u v := rfl
theorem xok_15 : p_ok1 [12] 15 (some (oX x u v)) = True := eq_true rfl
theorem xfv_15 : p_fv 15 (some (oX x u v)) = .int (x 15) := rfl
theorem xfs_15 : p_fs 15 (.int z) (some (oX x u v)) = oX (upd x 15 z) u v := rfl
theorem xok_16 : p_ok1 [12] 16 (some (oX x u v)) = True := eq_true rfl
theorem xfv_16 : p_fv 16 (some (oX x u v)) = .ref 43 := rfl
theorem xok_17 : p_ok1 [12] 17 (some (oX x u v)) = True := eq_true rfl
theorem xfv_17 : p_fv 17 (some (oX x u v)) = .int (x 17) := rfl
theorem xfs_17 : p_fs 17 (.int z) (some (oX x u v)) = oX (upd x 17 z) u v := rfl
theorem xok_18 : p_ok1 [12] 18 (some (oX x u v)) = True := eq_true rfl
theorem xfv_18 : p_fv 18 (some (oX x u v)) = .ref 44 := rfl
theorem xok_19 : p_ok1 [12] 19 (some (oX x u v)) = True := eq_true rfl
theorem xfv_19 : p_fv 19 (some (oX x u v)) = .int (x 19) := rfl
theorem xfs_19 : p_fs 19 (.int z) (some (oX x u v)) = oX (upd x 19 z) u v := rfl
theorem xok_20 : p_ok1 [12] 20 (some (oX x u v)) = True := eq_true rfl
theorem xfv_20 : p_fv 20 (some (oX x u v)) = .int (x 20) := rfl
theorem xfs_20 : p_fs 20 (.int z) (some (oX x u v)) = oX (upd x 20 z) u v := rfl
theorem xok_21 : p_ok1 [12] 21 (some (oX x u v)) = True := eq_true rfl
theorem xfv_21 : p_fv 21 (some (oX x u v)) = .int (x 21) := rfl
theorem xfs_21 : p_fs 21 (.int z) (some (oX x u v)) = oX (upd x 21 z) u v := rfl
theorem xok_22 : p_ok1 [12] 22 (some (oX x u v)) = True := eq_true rfl
theorem xfv_22 : p_fv 22 (some (oX x u v)) = .ref 45 := rfl
theorem xok_23 : p_ok1 [12] 23 (some (oX x u v)) = True := eq_true rfl
theorem xfv_23 : p_fv 23 (some (oX x u v)) = .ref 46 := rfl
theorem xok_24 : p_ok1 [12] 24 (some (oX x u v)) = True := eq_true rfl
theorem xfv_24 : p_fv 24 (some (oX x u v)) = .ref 47 := rfl
theorem xok_25 : p_ok1 [12] 25 (some (oX x u v)) = True := eq_true rfl
theorem xfv_25 : p_fv 25 (some (oX x u v)) = .ref 48 := rfl
theorem xok_26 : p_ok1 [12] 26 (some (oX x u v)) = True := eq_true rfl
theorem xfv_26 : p_fv 26 (some (oX x u v)) = .int (x 26) := rfl
theorem xfs_26 : p_fs 26 (.int z) (some (oX x u v)) = oX (upd x 26 z) u v := rfl
theorem xok_27 : p_ok1 [12] 27 (some (oX x u v)) = True := eq_true rfl
theorem xfv_27 : p_fv 27 (some (oX x u v)) = .ref 49 := rfl
theorem xok_28 : p_ok1 [12] 28 (some (oX x u v)) = True := eq_true rfl
theorem xfv_28 : p_fv 28 (some (oX x u v)) = .ref 50 := rfl
theorem xok_29 : p_ok1 [12] 29 (some (oX x u v)) = True := eq_true rfl
theorem xfv_29 : p_fv 29 (some (oX x u v)) = .ref 51 := rfl
theorem xok_30 : p_ok1 [12] 30 (some (oX x u v)) = True := eq_true rfl
theorem xfv_30 : p_fv 30 (some (oX x u v)) = .int (x 30) := rfl
theorem xfs_30 : p_fs 30 (.int z) (some (oX x u v)) = oX (upd x 30 z) u v := rfl
theorem xok_31 : p_ok1 [12] 31 (some (oX x u v)) = True := eq_true rfl
theorem xfv_31 : p_fv 31 (some (oX x u v)) = .long u := rfl
theorem xfs_31 : p_fs 31 (.long y) (some (oX x u v)) = oX x y v := rfl
theorem xok_32 : p_ok1 [12] 32 (some (oX x u v)) = True := eq_true rfl
theorem xfv_32 : p_fv 32 (some (oX x u v)) = .ref 52 := rfl
theorem xok_33 : p_ok1 [12] 33 (some (oX x u v)) = True := eq_true rfl
theorem xfv_33 : p_fv 33 (some (oX x u v)) = .int (x 33) := rfl
theorem xfs_33 : p_fs 33 (.int z) (some (oX x u v)) = oX (upd x 33 z) u v := rfl
theorem xok_34 : p_ok1 [12] 34 (some (oX x u v)) = True := eq_true rfl
theorem xfv_34 : p_fv 34 (some (oX x u v)) = .int (x 34) := rfl
theorem xfs_34 : p_fs 34 (.int z) (some (oX x u v)) = oX (upd x 34 z) u v := rfl
theorem xok_35 : p_ok1 [12] 35 (some (oX x u v)) = True := eq_true rfl
theorem xfv_35 : p_fv 35 (some (oX x u v)) = .int (x 35) := rfl
theorem xfs_35 : p_fs 35 (.int z) (some (oX x u v)) = oX (upd x 35 z) u v := rfl
theorem xok_36 : p_ok1 [12] 36 (some (oX x u v)) = True := eq_true rfl
theorem xfv_36 : p_fv 36 (some (oX x u v)) = .int (x 36) := rfl
theorem xfs_36 : p_fs 36 (.int z) (some (oX x u v)) = oX (upd x 36 z) u v := rfl
theorem xok_37 : p_ok1 [12] 37 (some (oX x u v)) = True := eq_true rfl
theorem xfv_37 : p_fv 37 (some (oX x u v)) = .int (x 37) := rfl
theorem xfs_37 : p_fs 37 (.int z) (some (oX x u v)) = oX (upd x 37 z) u v := rfl
theorem xok_38 : p_ok1 [12] 38 (some (oX x u v)) = True := eq_true rfl
theorem xfv_38 : p_fv 38 (some (oX x u v)) = .int (x 38) := rfl
theorem xfs_38 : p_fs 38 (.int z) (some (oX x u v)) = oX (upd x 38 z) u v := rfl
theorem xok_39 : p_ok1 [12] 39 (some (oX x u v)) = True := eq_true rfl
theorem xfv_39 : p_fv 39 (some (oX x u v)) = .int (x 39) := rfl
theorem xfs_39 : p_fs 39 (.int z) (some (oX x u v)) = oX (upd x 39 z) u v := rfl
theorem xok_40 : p_ok1 [12] 40 (some (oX x u v)) = True := eq_true rfl
theorem xfv_40 : p_fv 40 (some (oX x u v)) = .ref 53 := rfl
theorem xok_41 : p_ok1 [12] 41 (some (oX x u v)) = True := eq_true rfl
theorem xfv_41 : p_fv 41 (some (oX x u v)) = .ref 54 := rfl
theorem xok_42 : p_ok1 [12] 42 (some (oX x u v)) = True := eq_true rfl
theorem xfv_42 : p_fv 42 (some (oX x u v)) = .ref 55 := rfl
theorem xok_43 : p_ok1 [12] 43 (some (oX x u v)) = True := eq_true rfl
theorem xfv_43 : p_fv 43 (some (oX x u v)) = .ref 56 := rfl
theorem xok_44 : p_ok1 [12] 44 (some (oX x u v)) = True := eq_true rfl
theorem xfv_44 : p_fv 44 (some (oX x u v)) = .long v := rfl
theorem xfs_44 : p_fs 44 (.long y) (some (oX x u v)) = oX x u y := rfl
end S40a
