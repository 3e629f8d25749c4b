def foX_0 (a : Nat → Nat) (t : fw_S) : List Value := [.ref (a 1), .ref (a 2), .ref (a 3), .ref (a 6), .ref (a 7), .ref (a 8), .ref (a 9), .ref (a 10), .ref (a 11), .ref (a 12), .ref (a 13), .int (st_I t 0), .int (st_I t 1)]
def foX_1 (a : Nat → Nat) (t : fw_S) : List Value := [.ref (a 14), .ref (a 15), .ref (a 16), .ref (a 17), .ref (a 18), .ref (a 19), .int (st_I t 2), .int (st_I t 3), .int (st_I t 4), .int (st_I t 5)]
def foX_2 (a : Nat → Nat) (t : fw_S) : List Value := [.ref (a 20), .ref (a 21), .int (st_I t 6), .int (st_I t 7)]
def foX_3 (a : Nat → Nat) (t : fw_S) : List Value := [.ref (a 4), .ref (a 5), .ref (a 42), .long (st_J t 0), .long (st_J t 1), .long (st_J t 2), .int (st_I t 8), .long (st_J t 3)]
def foX_4 (a : Nat → Nat) (t : fw_S) : List Value := [.ref (a 22), .ref (a 23), .ref (a 24), .ref (a 25), .ref (a 26), .ref (a 27), .ref (a 28), .ref (a 29), .ref (a 30), .ref (a 31), .long (st_J t 4), .long (st_J t 5)]
def foX_5 (a : Nat → Nat) (t : fw_S) : List Value := [.ref (a 32), .ref (a 33), .ref (a 34), .ref (a 35), .ref (a 36), .ref (a 37), .ref (a 38), .ref (a 39), .ref (a 40), .ref (a 41), .long (st_J t 6), .long (st_J t 7)]
def foX_6 (a : Nat → Nat) (t : fw_S) : List Value := [.ref (a 43), .ref (a 44), .ref (a 45), .long (st_J t 8)]
def foX_7 (a : Nat → Nat) (t : fw_S) : List Value := [.ref (a 46), .ref (a 47), .ref (a 48), .long (st_J t 9)]
def foX_8 (a : Nat → Nat) (t : fw_S) : List Value := [.ref (a 49), .ref (a 50), .ref (a 51), .int (st_I t 9), .long (st_J t 10), .ref (a 52), .ref (a 53), .ref (a 54), .ref (a 55), .ref (a 56), .int (st_I t 10), .int (st_I t 11)]
def foX_9 (a : Nat → Nat) (t : fw_S) : List Value := [.ref (a 57), .int (st_I t 12)]
def foX_10 (a : Nat → Nat) (t : fw_S) : List Value := [.ref (a 58), .ref (a 59)]
def foX_11 (a : Nat → Nat) (t : fw_S) : List Value := [.ref (a 60), .ref (a 61)]
def foX_12 (a : Nat → Nat) (t : fw_S) : List Value := [.ref (a 62), .ref (a 63), .ref (a 64), .ref (a 65), .ref (a 66), .ref (a 67), .ref (a 68), .ref (a 69), .ref (a 70), .ref (a 71), .long (st_J t 11), .long (st_J t 12)]
def foX_13 (a : Nat → Nat) (t : fw_S) : List Value := [.ref (a 72), .ref (a 73), .ref (a 74), .int (st_I t 13), .long (st_J t 13), .ref (a 75), .ref (a 76), .ref (a 77), .ref (a 78), .ref (a 79), .int (st_I t 14), .int (st_I t 15)]
def WX (ca : Nat → ClassId) (a : Nat → Nat) (t : fw_S) : va_W := [(a 0, .inr (10, foX_0 a t)), (a 1, .inr (5, foX_1 a t)), (a 2, .inr (6, foX_2 a t)), (a 3, .inr (1, foX_3 a t)), (a 4, .inr (0, foX_4 a t)), (a 5, .inr (0, foX_5 a t)), (a 6, .inr (7, foX_6 a t)), (a 7, .inr (7, foX_7 a t)), (a 8, .inr (9, foX_8 a t)), (a 9, .inr (3, foX_9 a t)), (a 10, .inr (4, foX_10 a t)), (a 11, .inr (8, foX_11 a t)), (a 12, .inr (0, foX_12 a t)), (a 13, .inr (9, foX_13 a t)), (a 14, .inl (ca 0, 120, .inl (st_F t 0))), (a 15, .inl (ca 0, 160, .inl (st_F t 1))), (a 16, .inl (ca 0, 160, .inl (st_F t 2))), (a 17, .inl (ca 0, 160, .inl (st_F t 3))), (a 18, .inl (ca 0, 160, .inl (st_F t 4))), (a 19, .inl (ca 0, 160, .inl (st_F t 5))), (a 20, .inl (ca 0, 256, .inl (st_F t 6))), (a 21, .inl (ca 0, 512, .inl (st_F t 7))), (a 22, .inl (ca 0, 32, .inl (st_F t 8))), (a 23, .inl (ca 1, 32, .inr (.inl (st_G t 0)))), (a 24, .inl (ca 0, 32, .inl (st_F t 9))), (a 25, .inl (ca 3, 32, .inr (.inr (.inr (.inr (fun _ => none)))))), (a 26, .inl (ca 0, 32, .inl (st_F t 10))), (a 27, .inl (ca 0, 32, .inl (st_F t 11))), (a 28, .inl (ca 0, 32, .inl (st_F t 12))), (a 29, .inl (ca 0, 1024, .inl (st_F t 13))), (a 30, .inl (ca 0, 32, .inl (st_F t 14))), (a 31, .inl (ca 1, 32, .inr (.inl (st_G t 1)))), (a 32, .inl (ca 0, 32, .inl (st_F t 15))), (a 33, .inl (ca 1, 32, .inr (.inl (st_G t 2)))), (a 34, .inl (ca 0, 32, .inl (st_F t 16))), (a 35, .inl (ca 3, 32, .inr (.inr (.inr (.inr (fun _ => none)))))), (a 36, .inl (ca 0, 32, .inl (st_F t 17))), (a 37, .inl (ca 0, 32, .inl (st_F t 18))), (a 38, .inl (ca 0, 32, .inl (st_F t 19))), (a 39, .inl (ca 0, 1024, .inl (st_F t 20))), (a 40, .inl (ca 0, 32, .inl (st_F t 21))), (a 41, .inl (ca 1, 32, .inr (.inl (st_G t 3)))), (a 42, .inl (ca 1, 5120, .inr (.inl (st_G t 4)))), (a 43, .inl (ca 0, 32, .inl (st_F t 22))), (a 44, .inl (ca 1, 32, .inr (.inl (st_G t 5)))), (a 45, .inl (ca 3, 32, .inr (.inr (.inr (.inr (fun _ => none)))))), (a 46, .inl (ca 0, 32, .inl (st_F t 23))), (a 47, .inl (ca 1, 32, .inr (.inl (st_G t 6)))), (a 48, .inl (ca 3, 32, .inr (.inr (.inr (.inr (fun _ => none)))))), (a 49, .inl (ca 0, 8, .inl (st_F t 24))), (a 50, .inl (ca 0, 8, .inl (st_F t 25))), (a 51, .inl (ca 1, 8, .inr (.inl (st_G t 7)))), (a 52, .inl (ca 0, 60, .inl (st_F t 26))), (a 53, .inl (ca 0, 60, .inl (st_F t 27))), (a 54, .inl (ca 0, 60, .inl (st_F t 28))), (a 55, .inl (ca 1, 60, .inr (.inl (st_G t 8)))), (a 56, .inl (ca 1, 60, .inr (.inl (st_G t 9)))), (a 57, .inl (ca 0, 80, .inl (st_F t 29))), (a 58, .inl (ca 1, 160, .inr (.inl (st_G t 10)))), (a 59, .inl (ca 0, 4, .inl (st_F t 30))), (a 60, .inl (ca 0, 32, .inl (st_F t 31))), (a 61, .inl (ca 0, 32, .inl (st_F t 32))), (a 62, .inl (ca 0, 32, .inl (st_F t 33))), (a 63, .inl (ca 1, 32, .inr (.inl (st_G t 11)))), (a 64, .inl (ca 0, 32, .inl (st_F t 34))), (a 65, .inl (ca 3, 32, .inr (.inr (.inr (.inr (fun _ => none)))))), (a 66, .inl (ca 0, 32, .inl (st_F t 35))), (a 67, .inl (ca 0, 32, .inl (st_F t 36))), (a 68, .inl (ca 0, 32, .inl (st_F t 37))), (a 69, .inl (ca 0, 1024, .inl (st_F t 38))), (a 70, .inl (ca 0, 32, .inl (st_F t 39))), (a 71, .inl (ca 1, 32, .inr (.inl (st_G t 12)))), (a 72, .inl (ca 0, 8, .inl (st_F t 40))), (a 73, .inl (ca 0, 8, .inl (st_F t 41))), (a 74, .inl (ca 1, 8, .inr (.inl (st_G t 13)))), (a 75, .inl (ca 0, 60, .inl (st_F t 42))), (a 76, .inl (ca 0, 60, .inl (st_F t 43))), (a 77, .inl (ca 0, 60, .inl (st_F t 44))), (a 78, .inl (ca 1, 60, .inr (.inl (st_G t 14)))), (a 79, .inl (ca 1, 60, .inr (.inl (st_G t 15))))]
theorem okX (ca : Nat → ClassId) (a : Nat → Nat) : fw_ok (WX ca a) := fun t u => rfl
theorem heX_0 (ca : Nat → ClassId) (a : Nat → Nat) (t : fw_S) : (WX ca a t)[0]? = some (a 0, .inr (10, foX_0 a t)) := rfl
theorem suX_0_11 {ca : Nat → ClassId} {a : Nat → Nat} {t : fw_S} {v : Int32} : (WX ca a t).set 0 (a 0, .inr (10, (foX_0 a t).set 11 (.int v))) = WX ca a (up_I t 0 v) := rfl
theorem suX_0_12 {ca : Nat → ClassId} {a : Nat → Nat} {t : fw_S} {v : Int32} : (WX ca a t).set 0 (a 0, .inr (10, (foX_0 a t).set 12 (.int v))) = WX ca a (up_I t 1 v) := rfl
theorem heX_1 (ca : Nat → ClassId) (a : Nat → Nat) (t : fw_S) : (WX ca a t)[1]? = some (a 1, .inr (5, foX_1 a t)) := rfl
theorem suX_1_6 {ca : Nat → ClassId} {a : Nat → Nat} {t : fw_S} {v : Int32} : (WX ca a t).set 1 (a 1, .inr (5, (foX_1 a t).set 6 (.int v))) = WX ca a (up_I t 2 v) := rfl
theorem suX_1_7 {ca : Nat → ClassId} {a : Nat → Nat} {t : fw_S} {v : Int32} : (WX ca a t).set 1 (a 1, .inr (5, (foX_1 a t).set 7 (.int v))) = WX ca a (up_I t 3 v) := rfl
theorem suX_1_8 {ca : Nat → ClassId} {a : Nat → Nat} {t : fw_S} {v : Int32} : (WX ca a t).set 1 (a 1, .inr (5, (foX_1 a t).set 8 (.int v))) = WX ca a (up_I t 4 v) := rfl
theorem suX_1_9 {ca : Nat → ClassId} {a : Nat → Nat} {t : fw_S} {v : Int32} : (WX ca a t).set 1 (a 1, .inr (5, (foX_1 a t).set 9 (.int v))) = WX ca a (up_I t 5 v) := rfl
theorem heX_2 (ca : Nat → ClassId) (a : Nat → Nat) (t : fw_S) : (WX ca a t)[2]? = some (a 2, .inr (6, foX_2 a t)) := rfl
theorem suX_2_2 {ca : Nat → ClassId} {a : Nat → Nat} {t : fw_S} {v : Int32} : (WX ca a t).set 2 (a 2, .inr (6, (foX_2 a t).set 2 (.int v))) = WX ca a (up_I t 6 v) := rfl
theorem suX_2_3 {ca : Nat → ClassId} {a : Nat → Nat} {t : fw_S} {v : Int32} : (WX ca a t).set 2 (a 2, .inr (6, (foX_2 a t).set 3 (.int v))) = WX ca a (up_I t 7 v) := rfl
theorem heX_3 (ca : Nat → ClassId) (a : Nat → Nat) (t : fw_S) : (WX ca a t)[3]? = some (a 3, .inr (1, foX_3 a t)) := rfl
theorem suX_3_3 {ca : Nat → ClassId} {a : Nat → Nat} {t : fw_S} {v : Int64} : (WX ca a t).set 3 (a 3, .inr (1, (foX_3 a t).set 3 (.long v))) = WX ca a (up_J t 0 v) := rfl
theorem suX_3_4 {ca : Nat → ClassId} {a : Nat → Nat} {t : fw_S} {v : Int64} : (WX ca a t).set 3 (a 3, .inr (1, (foX_3 a t).set 4 (.long v))) = WX ca a (up_J t 1 v) := rfl
theorem suX_3_5 {ca : Nat → ClassId} {a : Nat → Nat} {t : fw_S} {v : Int64} : (WX ca a t).set 3 (a 3, .inr (1, (foX_3 a t).set 5 (.long v))) = WX ca a (up_J t 2 v) := rfl
theorem suX_3_6 {ca : Nat → ClassId} {a : Nat → Nat} {t : fw_S} {v : Int32} : (WX ca a t).set 3 (a 3, .inr (1, (foX_3 a t).set 6 (.int v))) = WX ca a (up_I t 8 v) := rfl
theorem suX_3_7 {ca : Nat → ClassId} {a : Nat → Nat} {t : fw_S} {v : Int64} : (WX ca a t).set 3 (a 3, .inr (1, (foX_3 a t).set 7 (.long v))) = WX ca a (up_J t 3 v) := rfl
theorem heX_4 (ca : Nat → ClassId) (a : Nat → Nat) (t : fw_S) : (WX ca a t)[4]? = some (a 4, .inr (0, foX_4 a t)) := rfl
theorem suX_4_10 {ca : Nat → ClassId} {a : Nat → Nat} {t : fw_S} {v : Int64} : (WX ca a t).set 4 (a 4, .inr (0, (foX_4 a t).set 10 (.long v))) = WX ca a (up_J t 4 v) := rfl
theorem suX_4_11 {ca : Nat → ClassId} {a : Nat → Nat} {t : fw_S} {v : Int64} : (WX ca a t).set 4 (a 4, .inr (0, (foX_4 a t).set 11 (.long v))) = WX ca a (up_J t 5 v) := rfl
theorem heX_5 (ca : Nat → ClassId) (a : Nat → Nat) (t : fw_S) : (WX ca a t)[5]? = some (a 5, .inr (0, foX_5 a t)) := rfl
theorem suX_5_10 {ca : Nat → ClassId} {a : Nat → Nat} {t : fw_S} {v : Int64} : (WX ca a t).set 5 (a 5, .inr (0, (foX_5 a t).set 10 (.long v))) = WX ca a (up_J t 6 v) := rfl
theorem suX_5_11 {ca : Nat → ClassId} {a : Nat → Nat} {t : fw_S} {v : Int64} : (WX ca a t).set 5 (a 5, .inr (0, (foX_5 a t).set 11 (.long v))) = WX ca a (up_J t 7 v) := rfl
theorem heX_6 (ca : Nat → ClassId) (a : Nat → Nat) (t : fw_S) : (WX ca a t)[6]? = some (a 6, .inr (7, foX_6 a t)) := rfl
theorem suX_6_3 {ca : Nat → ClassId} {a : Nat → Nat} {t : fw_S} {v : Int64} : (WX ca a t).set 6 (a 6, .inr (7, (foX_6 a t).set 3 (.long v))) = WX ca a (up_J t 8 v) := rfl
theorem heX_7 (ca : Nat → ClassId) (a : Nat → Nat) (t : fw_S) : (WX ca a t)[7]? = some (a 7, .inr (7, foX_7 a t)) := rfl
theorem suX_7_3 {ca : Nat → ClassId} {a : Nat → Nat} {t : fw_S} {v : Int64} : (WX ca a t).set 7 (a 7, .inr (7, (foX_7 a t).set 3 (.long v))) = WX ca a (up_J t 9 v) := rfl
theorem heX_8 (ca : Nat → ClassId) (a : Nat → Nat) (t : fw_S) : (WX ca a t)[8]? = some (a 8, .inr (9, foX_8 a t)) := rfl
theorem suX_8_3 {ca : Nat → ClassId} {a : Nat → Nat} {t : fw_S} {v : Int32} : (WX ca a t).set 8 (a 8, .inr (9, (foX_8 a t).set 3 (.int v))) = WX ca a (up_I t 9 v) := rfl
theorem suX_8_4 {ca : Nat → ClassId} {a : Nat → Nat} {t : fw_S} {v : Int64} : (WX ca a t).set 8 (a 8, .inr (9, (foX_8 a t).set 4 (.long v))) = WX ca a (up_J t 10 v) := rfl
theorem suX_8_10 {ca : Nat → ClassId} {a : Nat → Nat} {t : fw_S} {v : Int32} : (WX ca a t).set 8 (a 8, .inr (9, (foX_8 a t).set 10 (.int v))) = WX ca a (up_I t 10 v) := rfl
theorem suX_8_11 {ca : Nat → ClassId} {a : Nat → Nat} {t : fw_S} {v : Int32} : (WX ca a t).set 8 (a 8, .inr (9, (foX_8 a t).set 11 (.int v))) = WX ca a (up_I t 11 v) := rfl
theorem heX_9 (ca : Nat → ClassId) (a : Nat → Nat) (t : fw_S) : (WX ca a t)[9]? = some (a 9, .inr (3, foX_9 a t)) := rfl
theorem suX_9_1 {ca : Nat → ClassId} {a : Nat → Nat} {t : fw_S} {v : Int32} : (WX ca a t).set 9 (a 9, .inr (3, (foX_9 a t).set 1 (.int v))) = WX ca a (up_I t 12 v) := rfl
theorem heX_10 (ca : Nat → ClassId) (a : Nat → Nat) (t : fw_S) : (WX ca a t)[10]? = some (a 10, .inr (4, foX_10 a t)) := rfl
theorem heX_11 (ca : Nat → ClassId) (a : Nat → Nat) (t : fw_S) : (WX ca a t)[11]? = some (a 11, .inr (8, foX_11 a t)) := rfl
theorem heX_12 (ca : Nat → ClassId) (a : Nat → Nat) (t : fw_S) : (WX ca a t)[12]? = some (a 12, .inr (0, foX_12 a t)) := rfl
theorem suX_12_10 {ca : Nat → ClassId} {a : Nat → Nat} {t : fw_S} {v : Int64} : (WX ca a t).set 12 (a 12, .inr (0, (foX_12 a t).set 10 (.long v))) = WX ca a (up_J t 11 v) := rfl
theorem suX_12_11 {ca : Nat → ClassId} {a : Nat → Nat} {t : fw_S} {v : Int64} : (WX ca a t).set 12 (a 12, .inr (0, (foX_12 a t).set 11 (.long v))) = WX ca a (up_J t 12 v) := rfl
theorem heX_13 (ca : Nat → ClassId) (a : Nat → Nat) (t : fw_S) : (WX ca a t)[13]? = some (a 13, .inr (9, foX_13 a t)) := rfl
theorem suX_13_3 {ca : Nat → ClassId} {a : Nat → Nat} {t : fw_S} {v : Int32} : (WX ca a t).set 13 (a 13, .inr (9, (foX_13 a t).set 3 (.int v))) = WX ca a (up_I t 13 v) := rfl
theorem suX_13_4 {ca : Nat → ClassId} {a : Nat → Nat} {t : fw_S} {v : Int64} : (WX ca a t).set 13 (a 13, .inr (9, (foX_13 a t).set 4 (.long v))) = WX ca a (up_J t 13 v) := rfl
theorem suX_13_10 {ca : Nat → ClassId} {a : Nat → Nat} {t : fw_S} {v : Int32} : (WX ca a t).set 13 (a 13, .inr (9, (foX_13 a t).set 10 (.int v))) = WX ca a (up_I t 14 v) := rfl
theorem suX_13_11 {ca : Nat → ClassId} {a : Nat → Nat} {t : fw_S} {v : Int32} : (WX ca a t).set 13 (a 13, .inr (9, (foX_13 a t).set 11 (.int v))) = WX ca a (up_I t 15 v) := rfl
theorem haX_14 (ca : Nat → ClassId) (a : Nat → Nat) (t : fw_S) : (WX ca a t)[14]? = some (a 14, .inl (ca 0, 120, .inl (st_F t 0))) := rfl
theorem saX_14 {ca : Nat → ClassId} {a : Nat → Nat} {t : fw_S} {f : Nat → Int32} : (WX ca a t).set 14 (a 14, .inl (ca 0, 120, .inl (f))) = WX ca a (up_F t 0 f) := rfl
theorem haX_15 (ca : Nat → ClassId) (a : Nat → Nat) (t : fw_S) : (WX ca a t)[15]? = some (a 15, .inl (ca 0, 160, .inl (st_F t 1))) := rfl
theorem saX_15 {ca : Nat → ClassId} {a : Nat → Nat} {t : fw_S} {f : Nat → Int32} : (WX ca a t).set 15 (a 15, .inl (ca 0, 160, .inl (f))) = WX ca a (up_F t 1 f) := rfl
theorem haX_16 (ca : Nat → ClassId) (a : Nat → Nat) (t : fw_S) : (WX ca a t)[16]? = some (a 16, .inl (ca 0, 160, .inl (st_F t 2))) := rfl
theorem saX_16 {ca : Nat → ClassId} {a : Nat → Nat} {t : fw_S} {f : Nat → Int32} : (WX ca a t).set 16 (a 16, .inl (ca 0, 160, .inl (f))) = WX ca a (up_F t 2 f) := rfl
theorem haX_17 (ca : Nat → ClassId) (a : Nat → Nat) (t : fw_S) : (WX ca a t)[17]? = some (a 17, .inl (ca 0, 160, .inl (st_F t 3))) := rfl
theorem saX_17 {ca : Nat → ClassId} {a : Nat → Nat} {t : fw_S} {f : Nat → Int32} : (WX ca a t).set 17 (a 17, .inl (ca 0, 160, .inl (f))) = WX ca a (up_F t 3 f) := rfl
theorem haX_18 (ca : Nat → ClassId) (a : Nat → Nat) (t : fw_S) : (WX ca a t)[18]? = some (a 18, .inl (ca 0, 160, .inl (st_F t 4))) := rfl
theorem saX_18 {ca : Nat → ClassId} {a : Nat → Nat} {t : fw_S} {f : Nat → Int32} : (WX ca a t).set 18 (a 18, .inl (ca 0, 160, .inl (f))) = WX ca a (up_F t 4 f) := rfl
theorem haX_19 (ca : Nat → ClassId) (a : Nat → Nat) (t : fw_S) : (WX ca a t)[19]? = some (a 19, .inl (ca 0, 160, .inl (st_F t 5))) := rfl
theorem saX_19 {ca : Nat → ClassId} {a : Nat → Nat} {t : fw_S} {f : Nat → Int32} : (WX ca a t).set 19 (a 19, .inl (ca 0, 160, .inl (f))) = WX ca a (up_F t 5 f) := rfl
theorem haX_20 (ca : Nat → ClassId) (a : Nat → Nat) (t : fw_S) : (WX ca a t)[20]? = some (a 20, .inl (ca 0, 256, .inl (st_F t 6))) := rfl
theorem saX_20 {ca : Nat → ClassId} {a : Nat → Nat} {t : fw_S} {f : Nat → Int32} : (WX ca a t).set 20 (a 20, .inl (ca 0, 256, .inl (f))) = WX ca a (up_F t 6 f) := rfl
theorem haX_21 (ca : Nat → ClassId) (a : Nat → Nat) (t : fw_S) : (WX ca a t)[21]? = some (a 21, .inl (ca 0, 512, .inl (st_F t 7))) := rfl
theorem saX_21 {ca : Nat → ClassId} {a : Nat → Nat} {t : fw_S} {f : Nat → Int32} : (WX ca a t).set 21 (a 21, .inl (ca 0, 512, .inl (f))) = WX ca a (up_F t 7 f) := rfl
theorem haX_22 (ca : Nat → ClassId) (a : Nat → Nat) (t : fw_S) : (WX ca a t)[22]? = some (a 22, .inl (ca 0, 32, .inl (st_F t 8))) := rfl
theorem saX_22 {ca : Nat → ClassId} {a : Nat → Nat} {t : fw_S} {f : Nat → Int32} : (WX ca a t).set 22 (a 22, .inl (ca 0, 32, .inl (f))) = WX ca a (up_F t 8 f) := rfl
theorem haX_23 (ca : Nat → ClassId) (a : Nat → Nat) (t : fw_S) : (WX ca a t)[23]? = some (a 23, .inl (ca 1, 32, .inr (.inl (st_G t 0)))) := rfl
theorem saX_23 {ca : Nat → ClassId} {a : Nat → Nat} {t : fw_S} {f : Nat → Int64} : (WX ca a t).set 23 (a 23, .inl (ca 1, 32, .inr (.inl (f)))) = WX ca a (up_G t 0 f) := rfl
theorem haX_24 (ca : Nat → ClassId) (a : Nat → Nat) (t : fw_S) : (WX ca a t)[24]? = some (a 24, .inl (ca 0, 32, .inl (st_F t 9))) := rfl
theorem saX_24 {ca : Nat → ClassId} {a : Nat → Nat} {t : fw_S} {f : Nat → Int32} : (WX ca a t).set 24 (a 24, .inl (ca 0, 32, .inl (f))) = WX ca a (up_F t 9 f) := rfl
theorem haX_25 (ca : Nat → ClassId) (a : Nat → Nat) (t : fw_S) : (WX ca a t)[25]? = some (a 25, .inl (ca 3, 32, .inr (.inr (.inr (.inr (fun _ => none)))))) := rfl
theorem saX_25 {ca : Nat → ClassId} {a : Nat → Nat} {t : fw_S} : (WX ca a t).set 25 (a 25, .inl (ca 3, 32, .inr (.inr (.inr (.inr (fun _ => none)))))) = WX ca a t := rfl
theorem haX_26 (ca : Nat → ClassId) (a : Nat → Nat) (t : fw_S) : (WX ca a t)[26]? = some (a 26, .inl (ca 0, 32, .inl (st_F t 10))) := rfl
theorem saX_26 {ca : Nat → ClassId} {a : Nat → Nat} {t : fw_S} {f : Nat → Int32} : (WX ca a t).set 26 (a 26, .inl (ca 0, 32, .inl (f))) = WX ca a (up_F t 10 f) := rfl
theorem haX_27 (ca : Nat → ClassId) (a : Nat → Nat) (t : fw_S) : (WX ca a t)[27]? = some (a 27, .inl (ca 0, 32, .inl (st_F t 11))) := rfl
theorem saX_27 {ca : Nat → ClassId} {a : Nat → Nat} {t : fw_S} {f : Nat → Int32} : (WX ca a t).set 27 (a 27, .inl (ca 0, 32, .inl (f))) = WX ca a (up_F t 11 f) := rfl
theorem haX_28 (ca : Nat → ClassId) (a : Nat → Nat) (t : fw_S) : (WX ca a t)[28]? = some (a 28, .inl (ca 0, 32, .inl (st_F t 12))) := rfl
theorem saX_28 {ca : Nat → ClassId} {a : Nat → Nat} {t : fw_S} {f : Nat → Int32} : (WX ca a t).set 28 (a 28, .inl (ca 0, 32, .inl (f))) = WX ca a (up_F t 12 f) := rfl
theorem haX_29 (ca : Nat → ClassId) (a : Nat → Nat) (t : fw_S) : (WX ca a t)[29]? = some (a 29, .inl (ca 0, 1024, .inl (st_F t 13))) := rfl
theorem saX_29 {ca : Nat → ClassId} {a : Nat → Nat} {t : fw_S} {f : Nat → Int32} : (WX ca a t).set 29 (a 29, .inl (ca 0, 1024, .inl (f))) = WX ca a (up_F t 13 f) := rfl
theorem haX_30 (ca : Nat → ClassId) (a : Nat → Nat) (t : fw_S) : (WX ca a t)[30]? = some (a 30, .inl (ca 0, 32, .inl (st_F t 14))) := rfl
theorem saX_30 {ca : Nat → ClassId} {a : Nat → Nat} {t : fw_S} {f : Nat → Int32} : (WX ca a t).set 30 (a 30, .inl (ca 0, 32, .inl (f))) = WX ca a (up_F t 14 f) := rfl
theorem haX_31 (ca : Nat → ClassId) (a : Nat → Nat) (t : fw_S) : (WX ca a t)[31]? = some (a 31, .inl (ca 1, 32, .inr (.inl (st_G t 1)))) := rfl
theorem saX_31 {ca : Nat → ClassId} {a : Nat → Nat} {t : fw_S} {f : Nat → Int64} : (WX ca a t).set 31 (a 31, .inl (ca 1, 32, .inr (.inl (f)))) = WX ca a (up_G t 1 f) := rfl
theorem haX_32 (ca : Nat → ClassId) (a : Nat → Nat) (t : fw_S) : (WX ca a t)[32]? = some (a 32, .inl (ca 0, 32, .inl (st_F t 15))) := rfl
theorem saX_32 {ca : Nat → ClassId} {a : Nat → Nat} {t : fw_S} {f : Nat → Int32} : (WX ca a t).set 32 (a 32, .inl (ca 0, 32, .inl (f))) = WX ca a (up_F t 15 f) := rfl
theorem haX_33 (ca : Nat → ClassId) (a : Nat → Nat) (t : fw_S) : (WX ca a t)[33]? = some (a 33, .inl (ca 1, 32, .inr (.inl (st_G t 2)))) := rfl
theorem saX_33 {ca : Nat → ClassId} {a : Nat → Nat} {t : fw_S} {f : Nat → Int64} : (WX ca a t).set 33 (a 33, .inl (ca 1, 32, .inr (.inl (f)))) = WX ca a (up_G t 2 f) := rfl
theorem haX_34 (ca : Nat → ClassId) (a : Nat → Nat) (t : fw_S) : (WX ca a t)[34]? = some (a 34, .inl (ca 0, 32, .inl (st_F t 16))) := rfl
theorem saX_34 {ca : Nat → ClassId} {a : Nat → Nat} {t : fw_S} {f : Nat → Int32} : (WX ca a t).set 34 (a 34, .inl (ca 0, 32, .inl (f))) = WX ca a (up_F t 16 f) := rfl
theorem haX_35 (ca : Nat → ClassId) (a : Nat → Nat) (t : fw_S) : (WX ca a t)[35]? = some (a 35, .inl (ca 3, 32, .inr (.inr (.inr (.inr (fun _ => none)))))) := rfl
theorem saX_35 {ca : Nat → ClassId} {a : Nat → Nat} {t : fw_S} : (WX ca a t).set 35 (a 35, .inl (ca 3, 32, .inr (.inr (.inr (.inr (fun _ => none)))))) = WX ca a t := rfl
theorem haX_36 (ca : Nat → ClassId) (a : Nat → Nat) (t : fw_S) : (WX ca a t)[36]? = some (a 36, .inl (ca 0, 32, .inl (st_F t 17))) := rfl
theorem saX_36 {ca : Nat → ClassId} {a : Nat → Nat} {t : fw_S} {f : Nat → Int32} : (WX ca a t).set 36 (a 36, .inl (ca 0, 32, .inl (f))) = WX ca a (up_F t 17 f) := rfl
theorem haX_37 (ca : Nat → ClassId) (a : Nat → Nat) (t : fw_S) : (WX ca a t)[37]? = some (a 37, .inl (ca 0, 32, .inl (st_F t 18))) := rfl
theorem saX_37 {ca : Nat → ClassId} {a : Nat → Nat} {t : fw_S} {f : Nat → Int32} : (WX ca a t).set 37 (a 37, .inl (ca 0, 32, .inl (f))) = WX ca a (up_F t 18 f) := rfl
theorem haX_38 (ca : Nat → ClassId) (a : Nat → Nat) (t : fw_S) : (WX ca a t)[38]? = some (a 38, .inl (ca 0, 32, .inl (st_F t 19))) := rfl
theorem saX_38 {ca : Nat → ClassId} {a : Nat → Nat} {t : fw_S} {f : Nat → Int32} : (WX ca a t).set 38 (a 38, .inl (ca 0, 32, .inl (f))) = WX ca a (up_F t 19 f) := rfl
theorem haX_39 (ca : Nat → ClassId) (a : Nat → Nat) (t : fw_S) : (WX ca a t)[39]? = some (a 39, .inl (ca 0, 1024, .inl (st_F t 20))) := rfl
theorem saX_39 {ca : Nat → ClassId} {a : Nat → Nat} {t : fw_S} {f : Nat → Int32} : (WX ca a t).set 39 (a 39, .inl (ca 0, 1024, .inl (f))) = WX ca a (up_F t 20 f) := rfl
theorem haX_40 (ca : Nat → ClassId) (a : Nat → Nat) (t : fw_S) : (WX ca a t)[40]? = some (a 40, .inl (ca 0, 32, .inl (st_F t 21))) := rfl
theorem saX_40 {ca : Nat → ClassId} {a : Nat → Nat} {t : fw_S} {f : Nat → Int32} : (WX ca a t).set 40 (a 40, .inl (ca 0, 32, .inl (f))) = WX ca a (up_F t 21 f) := rfl
theorem haX_41 (ca : Nat → ClassId) (a : Nat → Nat) (t : fw_S) : (WX ca a t)[41]? = some (a 41, .inl (ca 1, 32, .inr (.inl (st_G t 3)))) := rfl
theorem saX_41 {ca : Nat → ClassId} {a : Nat → Nat} {t : fw_S} {f : Nat → Int64} : (WX ca a t).set 41 (a 41, .inl (ca 1, 32, .inr (.inl (f)))) = WX ca a (up_G t 3 f) := rfl
theorem haX_42 (ca : Nat → ClassId) (a : Nat → Nat) (t : fw_S) : (WX ca a t)[42]? = some (a 42, .inl (ca 1, 5120, .inr (.inl (st_G t 4)))) := rfl
theorem saX_42 {ca : Nat → ClassId} {a : Nat → Nat} {t : fw_S} {f : Nat → Int64} : (WX ca a t).set 42 (a 42, .inl (ca 1, 5120, .inr (.inl (f)))) = WX ca a (up_G t 4 f) := rfl
theorem haX_43 (ca : Nat → ClassId) (a : Nat → Nat) (t : fw_S) : (WX ca a t)[43]? = some (a 43, .inl (ca 0, 32, .inl (st_F t 22))) := rfl
theorem saX_43 {ca : Nat → ClassId} {a : Nat → Nat} {t : fw_S} {f : Nat → Int32} : (WX ca a t).set 43 (a 43, .inl (ca 0, 32, .inl (f))) = WX ca a (up_F t 22 f) := rfl
theorem haX_44 (ca : Nat → ClassId) (a : Nat → Nat) (t : fw_S) : (WX ca a t)[44]? = some (a 44, .inl (ca 1, 32, .inr (.inl (st_G t 5)))) := rfl
theorem saX_44 {ca : Nat → ClassId} {a : Nat → Nat} {t : fw_S} {f : Nat → Int64} : (WX ca a t).set 44 (a 44, .inl (ca 1, 32, .inr (.inl (f)))) = WX ca a (up_G t 5 f) := rfl
theorem haX_45 (ca : Nat → ClassId) (a : Nat → Nat) (t : fw_S) : (WX ca a t)[45]? = some (a 45, .inl (ca 3, 32, .inr (.inr (.inr (.inr (fun _ => none)))))) := rfl
theorem saX_45 {ca : Nat → ClassId} {a : Nat → Nat} {t : fw_S} : (WX ca a t).set 45 (a 45, .inl (ca 3, 32, .inr (.inr (.inr (.inr (fun _ => none)))))) = WX ca a t := rfl
theorem haX_46 (ca : Nat → ClassId) (a : Nat → Nat) (t : fw_S) : (WX ca a t)[46]? = some (a 46, .inl (ca 0, 32, .inl (st_F t 23))) := rfl
theorem saX_46 {ca : Nat → ClassId} {a : Nat → Nat} {t : fw_S} {f : Nat → Int32} : (WX ca a t).set 46 (a 46, .inl (ca 0, 32, .inl (f))) = WX ca a (up_F t 23 f) := rfl
theorem haX_47 (ca : Nat → ClassId) (a : Nat → Nat) (t : fw_S) : (WX ca a t)[47]? = some (a 47, .inl (ca 1, 32, .inr (.inl (st_G t 6)))) := rfl
theorem saX_47 {ca : Nat → ClassId} {a : Nat → Nat} {t : fw_S} {f : Nat → Int64} : (WX ca a t).set 47 (a 47, .inl (ca 1, 32, .inr (.inl (f)))) = WX ca a (up_G t 6 f) := rfl
theorem haX_48 (ca : Nat → ClassId) (a : Nat → Nat) (t : fw_S) : (WX ca a t)[48]? = some (a 48, .inl (ca 3, 32, .inr (.inr (.inr (.inr (fun _ => none)))))) := rfl
theorem saX_48 {ca : Nat → ClassId} {a : Nat → Nat} {t : fw_S} : (WX ca a t).set 48 (a 48, .inl (ca 3, 32, .inr (.inr (.inr (.inr (fun _ => none)))))) = WX ca a t := rfl
theorem haX_49 (ca : Nat → ClassId) (a : Nat → Nat) (t : fw_S) : (WX ca a t)[49]? = some (a 49, .inl (ca 0, 8, .inl (st_F t 24))) := rfl
theorem saX_49 {ca : Nat → ClassId} {a : Nat → Nat} {t : fw_S} {f : Nat → Int32} : (WX ca a t).set 49 (a 49, .inl (ca 0, 8, .inl (f))) = WX ca a (up_F t 24 f) := rfl
theorem haX_50 (ca : Nat → ClassId) (a : Nat → Nat) (t : fw_S) : (WX ca a t)[50]? = some (a 50, .inl (ca 0, 8, .inl (st_F t 25))) := rfl
theorem saX_50 {ca : Nat → ClassId} {a : Nat → Nat} {t : fw_S} {f : Nat → Int32} : (WX ca a t).set 50 (a 50, .inl (ca 0, 8, .inl (f))) = WX ca a (up_F t 25 f) := rfl
theorem haX_51 (ca : Nat → ClassId) (a : Nat → Nat) (t : fw_S) : (WX ca a t)[51]? = some (a 51, .inl (ca 1, 8, .inr (.inl (st_G t 7)))) := rfl
theorem saX_51 {ca : Nat → ClassId} {a : Nat → Nat} {t : fw_S} {f : Nat → Int64} : (WX ca a t).set 51 (a 51, .inl (ca 1, 8, .inr (.inl (f)))) = WX ca a (up_G t 7 f) := rfl
theorem haX_52 (ca : Nat → ClassId) (a : Nat → Nat) (t : fw_S) : (WX ca a t)[52]? = some (a 52, .inl (ca 0, 60, .inl (st_F t 26))) := rfl
theorem saX_52 {ca : Nat → ClassId} {a : Nat → Nat} {t : fw_S} {f : Nat → Int32} : (WX ca a t).set 52 (a 52, .inl (ca 0, 60, .inl (f))) = WX ca a (up_F t 26 f) := rfl
theorem haX_53 (ca : Nat → ClassId) (a : Nat → Nat) (t : fw_S) : (WX ca a t)[53]? = some (a 53, .inl (ca 0, 60, .inl (st_F t 27))) := rfl
theorem saX_53 {ca : Nat → ClassId} {a : Nat → Nat} {t : fw_S} {f : Nat → Int32} : (WX ca a t).set 53 (a 53, .inl (ca 0, 60, .inl (f))) = WX ca a (up_F t 27 f) := rfl
theorem haX_54 (ca : Nat → ClassId) (a : Nat → Nat) (t : fw_S) : (WX ca a t)[54]? = some (a 54, .inl (ca 0, 60, .inl (st_F t 28))) := rfl
theorem saX_54 {ca : Nat → ClassId} {a : Nat → Nat} {t : fw_S} {f : Nat → Int32} : (WX ca a t).set 54 (a 54, .inl (ca 0, 60, .inl (f))) = WX ca a (up_F t 28 f) := rfl
theorem haX_55 (ca : Nat → ClassId) (a : Nat → Nat) (t : fw_S) : (WX ca a t)[55]? = some (a 55, .inl (ca 1, 60, .inr (.inl (st_G t 8)))) := rfl
theorem saX_55 {ca : Nat → ClassId} {a : Nat → Nat} {t : fw_S} {f : Nat → Int64} : (WX ca a t).set 55 (a 55, .inl (ca 1, 60, .inr (.inl (f)))) = WX ca a (up_G t 8 f) := rfl
theorem haX_56 (ca : Nat → ClassId) (a : Nat → Nat) (t : fw_S) : (WX ca a t)[56]? = some (a 56, .inl (ca 1, 60, .inr (.inl (st_G t 9)))) := rfl
theorem saX_56 {ca : Nat → ClassId} {a : Nat → Nat} {t : fw_S} {f : Nat → Int64} : (WX ca a t).set 56 (a 56, .inl (ca 1, 60, .inr (.inl (f)))) = WX ca a (up_G t 9 f) := rfl
theorem haX_57 (ca : Nat → ClassId) (a : Nat → Nat) (t : fw_S) : (WX ca a t)[57]? = some (a 57, .inl (ca 0, 80, .inl (st_F t 29))) := rfl
theorem saX_57 {ca : Nat → ClassId} {a : Nat → Nat} {t : fw_S} {f : Nat → Int32} : (WX ca a t).set 57 (a 57, .inl (ca 0, 80, .inl (f))) = WX ca a (up_F t 29 f) := rfl
theorem haX_58 (ca : Nat → ClassId) (a : Nat → Nat) (t : fw_S) : (WX ca a t)[58]? = some (a 58, .inl (ca 1, 160, .inr (.inl (st_G t 10)))) := rfl
theorem saX_58 {ca : Nat → ClassId} {a : Nat → Nat} {t : fw_S} {f : Nat → Int64} : (WX ca a t).set 58 (a 58, .inl (ca 1, 160, .inr (.inl (f)))) = WX ca a (up_G t 10 f) := rfl
theorem haX_59 (ca : Nat → ClassId) (a : Nat → Nat) (t : fw_S) : (WX ca a t)[59]? = some (a 59, .inl (ca 0, 4, .inl (st_F t 30))) := rfl
theorem saX_59 {ca : Nat → ClassId} {a : Nat → Nat} {t : fw_S} {f : Nat → Int32} : (WX ca a t).set 59 (a 59, .inl (ca 0, 4, .inl (f))) = WX ca a (up_F t 30 f) := rfl
theorem haX_60 (ca : Nat → ClassId) (a : Nat → Nat) (t : fw_S) : (WX ca a t)[60]? = some (a 60, .inl (ca 0, 32, .inl (st_F t 31))) := rfl
theorem saX_60 {ca : Nat → ClassId} {a : Nat → Nat} {t : fw_S} {f : Nat → Int32} : (WX ca a t).set 60 (a 60, .inl (ca 0, 32, .inl (f))) = WX ca a (up_F t 31 f) := rfl
theorem haX_61 (ca : Nat → ClassId) (a : Nat → Nat) (t : fw_S) : (WX ca a t)[61]? = some (a 61, .inl (ca 0, 32, .inl (st_F t 32))) := rfl
theorem saX_61 {ca : Nat → ClassId} {a : Nat → Nat} {t : fw_S} {f : Nat → Int32} : (WX ca a t).set 61 (a 61, .inl (ca 0, 32, .inl (f))) = WX ca a (up_F t 32 f) := rfl
theorem haX_62 (ca : Nat → ClassId) (a : Nat → Nat) (t : fw_S) : (WX ca a t)[62]? = some (a 62, .inl (ca 0, 32, .inl (st_F t 33))) := rfl
theorem saX_62 {ca : Nat → ClassId} {a : Nat → Nat} {t : fw_S} {f : Nat → Int32} : (WX ca a t).set 62 (a 62, .inl (ca 0, 32, .inl (f))) = WX ca a (up_F t 33 f) := rfl
theorem haX_63 (ca : Nat → ClassId) (a : Nat → Nat) (t : fw_S) : (WX ca a t)[63]? = some (a 63, .inl (ca 1, 32, .inr (.inl (st_G t 11)))) := rfl
theorem saX_63 {ca : Nat → ClassId} {a : Nat → Nat} {t : fw_S} {f : Nat → Int64} : (WX ca a t).set 63 (a 63, .inl (ca 1, 32, .inr (.inl (f)))) = WX ca a (up_G t 11 f) := rfl
theorem haX_64 (ca : Nat → ClassId) (a : Nat → Nat) (t : fw_S) : (WX ca a t)[64]? = some (a 64, .inl (ca 0, 32, .inl (st_F t 34))) := rfl
theorem saX_64 {ca : Nat → ClassId} {a : Nat → Nat} {t : fw_S} {f : Nat → Int32} : (WX ca a t).set 64 (a 64, .inl (ca 0, 32, .inl (f))) = WX ca a (up_F t 34 f) := rfl
theorem haX_65 (ca : Nat → ClassId) (a : Nat → Nat) (t : fw_S) : (WX ca a t)[65]? = some (a 65, .inl (ca 3, 32, .inr (.inr (.inr (.inr (fun _ => none)))))) := rfl
theorem saX_65 {ca : Nat → ClassId} {a : Nat → Nat} {t : fw_S} : (WX ca a t).set 65 (a 65, .inl (ca 3, 32, .inr (.inr (.inr (.inr (fun _ => none)))))) = WX ca a t := rfl
theorem haX_66 (ca : Nat → ClassId) (a : Nat → Nat) (t : fw_S) : (WX ca a t)[66]? = some (a 66, .inl (ca 0, 32, .inl (st_F t 35))) := rfl
theorem saX_66 {ca : Nat → ClassId} {a : Nat → Nat} {t : fw_S} {f : Nat → Int32} : (WX ca a t).set 66 (a 66, .inl (ca 0, 32, .inl (f))) = WX ca a (up_F t 35 f) := rfl
theorem haX_67 (ca : Nat → ClassId) (a : Nat → Nat) (t : fw_S) : (WX ca a t)[67]? = some (a 67, .inl (ca 0, 32, .inl (st_F t 36))) := rfl
theorem saX_67 {ca : Nat → ClassId} {a : Nat → Nat} {t : fw_S} {f : Nat → Int32} : (WX ca a t).set 67 (a 67, .inl (ca 0, 32, .inl (f))) = WX ca a (up_F t 36 f) := rfl
theorem haX_68 (ca : Nat → ClassId) (a : Nat → Nat) (t : fw_S) : (WX ca a t)[68]? = some (a 68, .inl (ca 0, 32, .inl (st_F t 37))) := rfl
theorem saX_68 {ca : Nat → ClassId} {a : Nat → Nat} {t : fw_S} {f : Nat → Int32} : (WX ca a t).set 68 (a 68, .inl (ca 0, 32, .inl (f))) = WX ca a (up_F t 37 f) := rfl
theorem haX_69 (ca : Nat → ClassId) (a : Nat → Nat) (t : fw_S) : (WX ca a t)[69]? = some (a 69, .inl (ca 0, 1024, .inl (st_F t 38))) := rfl
theorem saX_69 {ca : Nat → ClassId} {a : Nat → Nat} {t : fw_S} {f : Nat → Int32} : (WX ca a t).set 69 (a 69, .inl (ca 0, 1024, .inl (f))) = WX ca a (up_F t 38 f) := rfl
theorem haX_70 (ca : Nat → ClassId) (a : Nat → Nat) (t : fw_S) : (WX ca a t)[70]? = some (a 70, .inl (ca 0, 32, .inl (st_F t 39))) := rfl
theorem saX_70 {ca : Nat → ClassId} {a : Nat → Nat} {t : fw_S} {f : Nat → Int32} : (WX ca a t).set 70 (a 70, .inl (ca 0, 32, .inl (f))) = WX ca a (up_F t 39 f) := rfl
theorem haX_71 (ca : Nat → ClassId) (a : Nat → Nat) (t : fw_S) : (WX ca a t)[71]? = some (a 71, .inl (ca 1, 32, .inr (.inl (st_G t 12)))) := rfl
theorem saX_71 {ca : Nat → ClassId} {a : Nat → Nat} {t : fw_S} {f : Nat → Int64} : (WX ca a t).set 71 (a 71, .inl (ca 1, 32, .inr (.inl (f)))) = WX ca a (up_G t 12 f) := rfl
theorem haX_72 (ca : Nat → ClassId) (a : Nat → Nat) (t : fw_S) : (WX ca a t)[72]? = some (a 72, .inl (ca 0, 8, .inl (st_F t 40))) := rfl
theorem saX_72 {ca : Nat → ClassId} {a : Nat → Nat} {t : fw_S} {f : Nat → Int32} : (WX ca a t).set 72 (a 72, .inl (ca 0, 8, .inl (f))) = WX ca a (up_F t 40 f) := rfl
theorem haX_73 (ca : Nat → ClassId) (a : Nat → Nat) (t : fw_S) : (WX ca a t)[73]? = some (a 73, .inl (ca 0, 8, .inl (st_F t 41))) := rfl
theorem saX_73 {ca : Nat → ClassId} {a : Nat → Nat} {t : fw_S} {f : Nat → Int32} : (WX ca a t).set 73 (a 73, .inl (ca 0, 8, .inl (f))) = WX ca a (up_F t 41 f) := rfl
theorem haX_74 (ca : Nat → ClassId) (a : Nat → Nat) (t : fw_S) : (WX ca a t)[74]? = some (a 74, .inl (ca 1, 8, .inr (.inl (st_G t 13)))) := rfl
theorem saX_74 {ca : Nat → ClassId} {a : Nat → Nat} {t : fw_S} {f : Nat → Int64} : (WX ca a t).set 74 (a 74, .inl (ca 1, 8, .inr (.inl (f)))) = WX ca a (up_G t 13 f) := rfl
theorem haX_75 (ca : Nat → ClassId) (a : Nat → Nat) (t : fw_S) : (WX ca a t)[75]? = some (a 75, .inl (ca 0, 60, .inl (st_F t 42))) := rfl
theorem saX_75 {ca : Nat → ClassId} {a : Nat → Nat} {t : fw_S} {f : Nat → Int32} : (WX ca a t).set 75 (a 75, .inl (ca 0, 60, .inl (f))) = WX ca a (up_F t 42 f) := rfl
theorem haX_76 (ca : Nat → ClassId) (a : Nat → Nat) (t : fw_S) : (WX ca a t)[76]? = some (a 76, .inl (ca 0, 60, .inl (st_F t 43))) := rfl
theorem saX_76 {ca : Nat → ClassId} {a : Nat → Nat} {t : fw_S} {f : Nat → Int32} : (WX ca a t).set 76 (a 76, .inl (ca 0, 60, .inl (f))) = WX ca a (up_F t 43 f) := rfl
theorem haX_77 (ca : Nat → ClassId) (a : Nat → Nat) (t : fw_S) : (WX ca a t)[77]? = some (a 77, .inl (ca 0, 60, .inl (st_F t 44))) := rfl
theorem saX_77 {ca : Nat → ClassId} {a : Nat → Nat} {t : fw_S} {f : Nat → Int32} : (WX ca a t).set 77 (a 77, .inl (ca 0, 60, .inl (f))) = WX ca a (up_F t 44 f) := rfl
theorem haX_78 (ca : Nat → ClassId) (a : Nat → Nat) (t : fw_S) : (WX ca a t)[78]? = some (a 78, .inl (ca 1, 60, .inr (.inl (st_G t 14)))) := rfl
theorem saX_78 {ca : Nat → ClassId} {a : Nat → Nat} {t : fw_S} {f : Nat → Int64} : (WX ca a t).set 78 (a 78, .inl (ca 1, 60, .inr (.inl (f)))) = WX ca a (up_G t 14 f) := rfl
theorem haX_79 (ca : Nat → ClassId) (a : Nat → Nat) (t : fw_S) : (WX ca a t)[79]? = some (a 79, .inl (ca 1, 60, .inr (.inl (st_G t 15)))) := rfl
theorem saX_79 {ca : Nat → ClassId} {a : Nat → Nat} {t : fw_S} {f : Nat → Int64} : (WX ca a t).set 79 (a 79, .inl (ca 1, 60, .inr (.inl (f)))) = WX ca a (up_G t 15 f) := rfl
def foM_0 (a : Nat → Nat) (t : fw_S) : List Value := [.ref (a 1), .ref (a 2), .ref (a 3), .ref (a 4), .ref (a 5), .ref (a 6), .ref (a 7), .ref (a 8), .ref (a 9), .ref (a 10), .ref (a 11), .ref (a 12), .ref (a 13), .ref (a 14), .ref (a 15), .ref (a 16), .ref (a 17), .ref (a 18), .ref (a 19), .ref (a 20), .ref (a 21), .ref (a 22), .int (st_I t 0), .ref (a 23), .ref (a 24), .ref (a 25), .ref (a 26), .ref (a 27), .ref (a 28), .ref (a 29), .ref (a 30), .ref (a 31), .ref (a 32), .ref (a 33), .int (st_I t 1), .int (st_I t 2), .int (st_I t 3), .int (st_I t 4), .ref (a 34), .ref (a 35), .int (st_I t 5), .int (st_I t 6), .int (st_I t 7), .int (st_I t 8), .int (st_I t 9), .int (st_I t 10), .int (st_I t 11), .int (st_I t 12), .int (st_I t 13), .int (st_I t 14), .int (st_I t 15), .int (st_I t 16), .int (st_I t 17), .ref (a 36), .ref (a 37), .ref (a 38), .ref (a 39), .ref (a 40), .ref (a 41), .ref (a 42), .ref (a 43), .ref (a 44), .ref (a 45), .ref (a 46), .ref (a 47), .int (st_I t 18), .ref (a 48), .ref (a 49), .int (st_I t 19), .int (st_I t 20), .ref (a 50), .ref (a 51), .ref (a 52), .long (st_J t 0), .int (st_I t 21), .ref (a 53)]
def WM (ca : Nat → ClassId) (a : Nat → Nat) (t : fw_S) : va_W := [(a 0, .inr (11, foM_0 a t)), (a 1, .inl (ca 0, 32, .inl (st_F t 0))), (a 2, .inl (ca 0, 32, .inl (st_F t 1))), (a 3, .inl (ca 0, 32, .inl (st_F t 2))), (a 4, .inl (ca 0, 32, .inl (st_F t 3))), (a 5, .inl (ca 0, 32, .inl (st_F t 4))), (a 6, .inl (ca 0, 32, .inl (st_F t 5))), (a 7, .inl (ca 1, 32, .inr (.inl (st_G t 0)))), (a 8, .inl (ca 0, 1024, .inl (st_F t 6))), (a 9, .inl (ca 2, 32, .inl (st_F t 7))), (a 10, .inl (ca 2, 32, .inl (st_F t 8))), (a 11, .inl (ca 0, 16384, .inl (st_F t 9))), (a 12, .inl (ca 0, 16384, .inl (st_F t 10))), (a 13, .inl (ca 0, 16384, .inl (st_F t 11))), (a 14, .inl (ca 0, 16384, .inl (st_F t 12))), (a 15, .inl (ca 2, 32, .inl (st_F t 13))), (a 16, .inl (ca 2, 32, .inl (st_F t 14))), (a 17, .inl (ca 0, 32, .inl (st_F t 15))), (a 18, .inl (ca 0, 32, .inl (st_F t 16))), (a 19, .inl (ca 0, 32, .inl (st_F t 17))), (a 20, .inl (ca 0, 32, .inl (st_F t 18))), (a 21, .inl (ca 1, 32, .inr (.inl (st_G t 1)))), (a 22, .inl (ca 1, 32, .inr (.inl (st_G t 2)))), (a 23, .inl (ca 0, 32, .inl (st_F t 19))), (a 24, .inl (ca 0, 32, .inl (st_F t 20))), (a 25, .inl (ca 0, 32, .inl (st_F t 21))), (a 26, .inl (ca 0, 32, .inl (st_F t 22))), (a 27, .inl (ca 0, 32, .inl (st_F t 23))), (a 28, .inl (ca 0, 32, .inl (st_F t 24))), (a 29, .inl (ca 0, 1024, .inl (st_F t 25))), (a 30, .inl (ca 1, 32, .inr (.inl (st_G t 3)))), (a 31, .inl (ca 2, 32, .inl (st_F t 26))), (a 32, .inl (ca 2, 32, .inl (st_F t 27))), (a 33, .inl (ca 0, 32, .inl (st_F t 28))), (a 34, .inl (ca 0, 120, .inl (st_F t 29))), (a 35, .inl (ca 0, 400, .inl (st_F t 30))), (a 36, .inl (ca 0, 8, .inl (st_F t 31))), (a 37, .inl (ca 0, 8, .inl (st_F t 32))), (a 38, .inl (ca 0, 60, .inl (st_F t 33))), (a 39, .inl (ca 0, 60, .inl (st_F t 34))), (a 40, .inl (ca 0, 60, .inl (st_F t 35))), (a 41, .inl (ca 2, 8, .inl (st_F t 36))), (a 42, .inl (ca 1, 8, .inr (.inl (st_G t 4)))), (a 43, .inl (ca 1, 60, .inr (.inl (st_G t 5)))), (a 44, .inl (ca 1, 60, .inr (.inl (st_G t 6)))), (a 45, .inl (ca 0, 80, .inl (st_F t 37))), (a 46, .inl (ca 1, 160, .inr (.inl (st_G t 7)))), (a 47, .inl (ca 0, 4, .inl (st_F t 38))), (a 48, .inl (ca 0, 2000, .inl (st_F t 39))), (a 49, .inl (ca 1, 200, .inr (.inl (st_G t 8)))), (a 50, .inl (ca 0, 32, .inl (st_F t 40))), (a 51, .inl (ca 0, 32, .inl (st_F t 41))), (a 52, .inl (ca 0, 32, .inl (st_F t 42))), (a 53, .inl (ca 0, 2, .inl (st_F t 43)))]
theorem okM (ca : Nat → ClassId) (a : Nat → Nat) : fw_ok (WM ca a) := fun t u => rfl
theorem heM_0 (ca : Nat → ClassId) (a : Nat → Nat) (t : fw_S) : (WM ca a t)[0]? = some (a 0, .inr (11, foM_0 a t)) := rfl
theorem suM_0_22 {ca : Nat → ClassId} {a : Nat → Nat} {t : fw_S} {v : Int32} : (WM ca a t).set 0 (a 0, .inr (11, (foM_0 a t).set 22 (.int v))) = WM ca a (up_I t 0 v) := rfl
theorem suM_0_34 {ca : Nat → ClassId} {a : Nat → Nat} {t : fw_S} {v : Int32} : (WM ca a t).set 0 (a 0, .inr (11, (foM_0 a t).set 34 (.int v))) = WM ca a (up_I t 1 v) := rfl
theorem suM_0_35 {ca : Nat → ClassId} {a : Nat → Nat} {t : fw_S} {v : Int32} : (WM ca a t).set 0 (a 0, .inr (11, (foM_0 a t).set 35 (.int v))) = WM ca a (up_I t 2 v) := rfl
theorem suM_0_36 {ca : Nat → ClassId} {a : Nat → Nat} {t : fw_S} {v : Int32} : (WM ca a t).set 0 (a 0, .inr (11, (foM_0 a t).set 36 (.int v))) = WM ca a (up_I t 3 v) := rfl
theorem suM_0_37 {ca : Nat → ClassId} {a : Nat → Nat} {t : fw_S} {v : Int32} : (WM ca a t).set 0 (a 0, .inr (11, (foM_0 a t).set 37 (.int v))) = WM ca a (up_I t 4 v) := rfl
theorem suM_0_40 {ca : Nat → ClassId} {a : Nat → Nat} {t : fw_S} {v : Int32} : (WM ca a t).set 0 (a 0, .inr (11, (foM_0 a t).set 40 (.int v))) = WM ca a (up_I t 5 v) := rfl
theorem suM_0_41 {ca : Nat → ClassId} {a : Nat → Nat} {t : fw_S} {v : Int32} : (WM ca a t).set 0 (a 0, .inr (11, (foM_0 a t).set 41 (.int v))) = WM ca a (up_I t 6 v) := rfl
theorem suM_0_42 {ca : Nat → ClassId} {a : Nat → Nat} {t : fw_S} {v : Int32} : (WM ca a t).set 0 (a 0, .inr (11, (foM_0 a t).set 42 (.int v))) = WM ca a (up_I t 7 v) := rfl
theorem suM_0_43 {ca : Nat → ClassId} {a : Nat → Nat} {t : fw_S} {v : Int32} : (WM ca a t).set 0 (a 0, .inr (11, (foM_0 a t).set 43 (.int v))) = WM ca a (up_I t 8 v) := rfl
theorem suM_0_44 {ca : Nat → ClassId} {a : Nat → Nat} {t : fw_S} {v : Int32} : (WM ca a t).set 0 (a 0, .inr (11, (foM_0 a t).set 44 (.int v))) = WM ca a (up_I t 9 v) := rfl
theorem suM_0_45 {ca : Nat → ClassId} {a : Nat → Nat} {t : fw_S} {v : Int32} : (WM ca a t).set 0 (a 0, .inr (11, (foM_0 a t).set 45 (.int v))) = WM ca a (up_I t 10 v) := rfl
theorem suM_0_46 {ca : Nat → ClassId} {a : Nat → Nat} {t : fw_S} {v : Int32} : (WM ca a t).set 0 (a 0, .inr (11, (foM_0 a t).set 46 (.int v))) = WM ca a (up_I t 11 v) := rfl
theorem suM_0_47 {ca : Nat → ClassId} {a : Nat → Nat} {t : fw_S} {v : Int32} : (WM ca a t).set 0 (a 0, .inr (11, (foM_0 a t).set 47 (.int v))) = WM ca a (up_I t 12 v) := rfl
theorem suM_0_48 {ca : Nat → ClassId} {a : Nat → Nat} {t : fw_S} {v : Int32} : (WM ca a t).set 0 (a 0, .inr (11, (foM_0 a t).set 48 (.int v))) = WM ca a (up_I t 13 v) := rfl
theorem suM_0_49 {ca : Nat → ClassId} {a : Nat → Nat} {t : fw_S} {v : Int32} : (WM ca a t).set 0 (a 0, .inr (11, (foM_0 a t).set 49 (.int v))) = WM ca a (up_I t 14 v) := rfl
theorem suM_0_50 {ca : Nat → ClassId} {a : Nat → Nat} {t : fw_S} {v : Int32} : (WM ca a t).set 0 (a 0, .inr (11, (foM_0 a t).set 50 (.int v))) = WM ca a (up_I t 15 v) := rfl
theorem suM_0_51 {ca : Nat → ClassId} {a : Nat → Nat} {t : fw_S} {v : Int32} : (WM ca a t).set 0 (a 0, .inr (11, (foM_0 a t).set 51 (.int v))) = WM ca a (up_I t 16 v) := rfl
theorem suM_0_52 {ca : Nat → ClassId} {a : Nat → Nat} {t : fw_S} {v : Int32} : (WM ca a t).set 0 (a 0, .inr (11, (foM_0 a t).set 52 (.int v))) = WM ca a (up_I t 17 v) := rfl
theorem suM_0_65 {ca : Nat → ClassId} {a : Nat → Nat} {t : fw_S} {v : Int32} : (WM ca a t).set 0 (a 0, .inr (11, (foM_0 a t).set 65 (.int v))) = WM ca a (up_I t 18 v) := rfl
theorem suM_0_68 {ca : Nat → ClassId} {a : Nat → Nat} {t : fw_S} {v : Int32} : (WM ca a t).set 0 (a 0, .inr (11, (foM_0 a t).set 68 (.int v))) = WM ca a (up_I t 19 v) := rfl
theorem suM_0_69 {ca : Nat → ClassId} {a : Nat → Nat} {t : fw_S} {v : Int32} : (WM ca a t).set 0 (a 0, .inr (11, (foM_0 a t).set 69 (.int v))) = WM ca a (up_I t 20 v) := rfl
theorem suM_0_73 {ca : Nat → ClassId} {a : Nat → Nat} {t : fw_S} {v : Int64} : (WM ca a t).set 0 (a 0, .inr (11, (foM_0 a t).set 73 (.long v))) = WM ca a (up_J t 0 v) := rfl
theorem suM_0_74 {ca : Nat → ClassId} {a : Nat → Nat} {t : fw_S} {v : Int32} : (WM ca a t).set 0 (a 0, .inr (11, (foM_0 a t).set 74 (.int v))) = WM ca a (up_I t 21 v) := rfl
theorem haM_1 (ca : Nat → ClassId) (a : Nat → Nat) (t : fw_S) : (WM ca a t)[1]? = some (a 1, .inl (ca 0, 32, .inl (st_F t 0))) := rfl
theorem saM_1 {ca : Nat → ClassId} {a : Nat → Nat} {t : fw_S} {f : Nat → Int32} : (WM ca a t).set 1 (a 1, .inl (ca 0, 32, .inl (f))) = WM ca a (up_F t 0 f) := rfl
theorem haM_2 (ca : Nat → ClassId) (a : Nat → Nat) (t : fw_S) : (WM ca a t)[2]? = some (a 2, .inl (ca 0, 32, .inl (st_F t 1))) := rfl
theorem saM_2 {ca : Nat → ClassId} {a : Nat → Nat} {t : fw_S} {f : Nat → Int32} : (WM ca a t).set 2 (a 2, .inl (ca 0, 32, .inl (f))) = WM ca a (up_F t 1 f) := rfl
theorem haM_3 (ca : Nat → ClassId) (a : Nat → Nat) (t : fw_S) : (WM ca a t)[3]? = some (a 3, .inl (ca 0, 32, .inl (st_F t 2))) := rfl
theorem saM_3 {ca : Nat → ClassId} {a : Nat → Nat} {t : fw_S} {f : Nat → Int32} : (WM ca a t).set 3 (a 3, .inl (ca 0, 32, .inl (f))) = WM ca a (up_F t 2 f) := rfl
theorem haM_4 (ca : Nat → ClassId) (a : Nat → Nat) (t : fw_S) : (WM ca a t)[4]? = some (a 4, .inl (ca 0, 32, .inl (st_F t 3))) := rfl
theorem saM_4 {ca : Nat → ClassId} {a : Nat → Nat} {t : fw_S} {f : Nat → Int32} : (WM ca a t).set 4 (a 4, .inl (ca 0, 32, .inl (f))) = WM ca a (up_F t 3 f) := rfl
theorem haM_5 (ca : Nat → ClassId) (a : Nat → Nat) (t : fw_S) : (WM ca a t)[5]? = some (a 5, .inl (ca 0, 32, .inl (st_F t 4))) := rfl
theorem saM_5 {ca : Nat → ClassId} {a : Nat → Nat} {t : fw_S} {f : Nat → Int32} : (WM ca a t).set 5 (a 5, .inl (ca 0, 32, .inl (f))) = WM ca a (up_F t 4 f) := rfl
theorem haM_6 (ca : Nat → ClassId) (a : Nat → Nat) (t : fw_S) : (WM ca a t)[6]? = some (a 6, .inl (ca 0, 32, .inl (st_F t 5))) := rfl
theorem saM_6 {ca : Nat → ClassId} {a : Nat → Nat} {t : fw_S} {f : Nat → Int32} : (WM ca a t).set 6 (a 6, .inl (ca 0, 32, .inl (f))) = WM ca a (up_F t 5 f) := rfl
theorem haM_7 (ca : Nat → ClassId) (a : Nat → Nat) (t : fw_S) : (WM ca a t)[7]? = some (a 7, .inl (ca 1, 32, .inr (.inl (st_G t 0)))) := rfl
theorem saM_7 {ca : Nat → ClassId} {a : Nat → Nat} {t : fw_S} {f : Nat → Int64} : (WM ca a t).set 7 (a 7, .inl (ca 1, 32, .inr (.inl (f)))) = WM ca a (up_G t 0 f) := rfl
theorem haM_8 (ca : Nat → ClassId) (a : Nat → Nat) (t : fw_S) : (WM ca a t)[8]? = some (a 8, .inl (ca 0, 1024, .inl (st_F t 6))) := rfl
theorem saM_8 {ca : Nat → ClassId} {a : Nat → Nat} {t : fw_S} {f : Nat → Int32} : (WM ca a t).set 8 (a 8, .inl (ca 0, 1024, .inl (f))) = WM ca a (up_F t 6 f) := rfl
theorem haM_9 (ca : Nat → ClassId) (a : Nat → Nat) (t : fw_S) : (WM ca a t)[9]? = some (a 9, .inl (ca 2, 32, .inl (st_F t 7))) := rfl
theorem saM_9 {ca : Nat → ClassId} {a : Nat → Nat} {t : fw_S} {f : Nat → Int32} : (WM ca a t).set 9 (a 9, .inl (ca 2, 32, .inl (f))) = WM ca a (up_F t 7 f) := rfl
theorem haM_10 (ca : Nat → ClassId) (a : Nat → Nat) (t : fw_S) : (WM ca a t)[10]? = some (a 10, .inl (ca 2, 32, .inl (st_F t 8))) := rfl
theorem saM_10 {ca : Nat → ClassId} {a : Nat → Nat} {t : fw_S} {f : Nat → Int32} : (WM ca a t).set 10 (a 10, .inl (ca 2, 32, .inl (f))) = WM ca a (up_F t 8 f) := rfl
theorem haM_11 (ca : Nat → ClassId) (a : Nat → Nat) (t : fw_S) : (WM ca a t)[11]? = some (a 11, .inl (ca 0, 16384, .inl (st_F t 9))) := rfl
theorem saM_11 {ca : Nat → ClassId} {a : Nat → Nat} {t : fw_S} {f : Nat → Int32} : (WM ca a t).set 11 (a 11, .inl (ca 0, 16384, .inl (f))) = WM ca a (up_F t 9 f) := rfl
theorem haM_12 (ca : Nat → ClassId) (a : Nat → Nat) (t : fw_S) : (WM ca a t)[12]? = some (a 12, .inl (ca 0, 16384, .inl (st_F t 10))) := rfl
theorem saM_12 {ca : Nat → ClassId} {a : Nat → Nat} {t : fw_S} {f : Nat → Int32} : (WM ca a t).set 12 (a 12, .inl (ca 0, 16384, .inl (f))) = WM ca a (up_F t 10 f) := rfl
theorem haM_13 (ca : Nat → ClassId) (a : Nat → Nat) (t : fw_S) : (WM ca a t)[13]? = some (a 13, .inl (ca 0, 16384, .inl (st_F t 11))) := rfl
theorem saM_13 {ca : Nat → ClassId} {a : Nat → Nat} {t : fw_S} {f : Nat → Int32} : (WM ca a t).set 13 (a 13, .inl (ca 0, 16384, .inl (f))) = WM ca a (up_F t 11 f) := rfl
theorem haM_14 (ca : Nat → ClassId) (a : Nat → Nat) (t : fw_S) : (WM ca a t)[14]? = some (a 14, .inl (ca 0, 16384, .inl (st_F t 12))) := rfl
theorem saM_14 {ca : Nat → ClassId} {a : Nat → Nat} {t : fw_S} {f : Nat → Int32} : (WM ca a t).set 14 (a 14, .inl (ca 0, 16384, .inl (f))) = WM ca a (up_F t 12 f) := rfl
theorem haM_15 (ca : Nat → ClassId) (a : Nat → Nat) (t : fw_S) : (WM ca a t)[15]? = some (a 15, .inl (ca 2, 32, .inl (st_F t 13))) := rfl
theorem saM_15 {ca : Nat → ClassId} {a : Nat → Nat} {t : fw_S} {f : Nat → Int32} : (WM ca a t).set 15 (a 15, .inl (ca 2, 32, .inl (f))) = WM ca a (up_F t 13 f) := rfl
theorem haM_16 (ca : Nat → ClassId) (a : Nat → Nat) (t : fw_S) : (WM ca a t)[16]? = some (a 16, .inl (ca 2, 32, .inl (st_F t 14))) := rfl
theorem saM_16 {ca : Nat → ClassId} {a : Nat → Nat} {t : fw_S} {f : Nat → Int32} : (WM ca a t).set 16 (a 16, .inl (ca 2, 32, .inl (f))) = WM ca a (up_F t 14 f) := rfl
theorem haM_17 (ca : Nat → ClassId) (a : Nat → Nat) (t : fw_S) : (WM ca a t)[17]? = some (a 17, .inl (ca 0, 32, .inl (st_F t 15))) := rfl
theorem saM_17 {ca : Nat → ClassId} {a : Nat → Nat} {t : fw_S} {f : Nat → Int32} : (WM ca a t).set 17 (a 17, .inl (ca 0, 32, .inl (f))) = WM ca a (up_F t 15 f) := rfl
theorem haM_18 (ca : Nat → ClassId) (a : Nat → Nat) (t : fw_S) : (WM ca a t)[18]? = some (a 18, .inl (ca 0, 32, .inl (st_F t 16))) := rfl
theorem saM_18 {ca : Nat → ClassId} {a : Nat → Nat} {t : fw_S} {f : Nat → Int32} : (WM ca a t).set 18 (a 18, .inl (ca 0, 32, .inl (f))) = WM ca a (up_F t 16 f) := rfl
theorem haM_19 (ca : Nat → ClassId) (a : Nat → Nat) (t : fw_S) : (WM ca a t)[19]? = some (a 19, .inl (ca 0, 32, .inl (st_F t 17))) := rfl
theorem saM_19 {ca : Nat → ClassId} {a : Nat → Nat} {t : fw_S} {f : Nat → Int32} : (WM ca a t).set 19 (a 19, .inl (ca 0, 32, .inl (f))) = WM ca a (up_F t 17 f) := rfl
theorem haM_20 (ca : Nat → ClassId) (a : Nat → Nat) (t : fw_S) : (WM ca a t)[20]? = some (a 20, .inl (ca 0, 32, .inl (st_F t 18))) := rfl
theorem saM_20 {ca : Nat → ClassId} {a : Nat → Nat} {t : fw_S} {f : Nat → Int32} : (WM ca a t).set 20 (a 20, .inl (ca 0, 32, .inl (f))) = WM ca a (up_F t 18 f) := rfl
theorem haM_21 (ca : Nat → ClassId) (a : Nat → Nat) (t : fw_S) : (WM ca a t)[21]? = some (a 21, .inl (ca 1, 32, .inr (.inl (st_G t 1)))) := rfl
theorem saM_21 {ca : Nat → ClassId} {a : Nat → Nat} {t : fw_S} {f : Nat → Int64} : (WM ca a t).set 21 (a 21, .inl (ca 1, 32, .inr (.inl (f)))) = WM ca a (up_G t 1 f) := rfl
theorem haM_22 (ca : Nat → ClassId) (a : Nat → Nat) (t : fw_S) : (WM ca a t)[22]? = some (a 22, .inl (ca 1, 32, .inr (.inl (st_G t 2)))) := rfl
theorem saM_22 {ca : Nat → ClassId} {a : Nat → Nat} {t : fw_S} {f : Nat → Int64} : (WM ca a t).set 22 (a 22, .inl (ca 1, 32, .inr (.inl (f)))) = WM ca a (up_G t 2 f) := rfl
theorem haM_23 (ca : Nat → ClassId) (a : Nat → Nat) (t : fw_S) : (WM ca a t)[23]? = some (a 23, .inl (ca 0, 32, .inl (st_F t 19))) := rfl
theorem saM_23 {ca : Nat → ClassId} {a : Nat → Nat} {t : fw_S} {f : Nat → Int32} : (WM ca a t).set 23 (a 23, .inl (ca 0, 32, .inl (f))) = WM ca a (up_F t 19 f) := rfl
theorem haM_24 (ca : Nat → ClassId) (a : Nat → Nat) (t : fw_S) : (WM ca a t)[24]? = some (a 24, .inl (ca 0, 32, .inl (st_F t 20))) := rfl
theorem saM_24 {ca : Nat → ClassId} {a : Nat → Nat} {t : fw_S} {f : Nat → Int32} : (WM ca a t).set 24 (a 24, .inl (ca 0, 32, .inl (f))) = WM ca a (up_F t 20 f) := rfl
theorem haM_25 (ca : Nat → ClassId) (a : Nat → Nat) (t : fw_S) : (WM ca a t)[25]? = some (a 25, .inl (ca 0, 32, .inl (st_F t 21))) := rfl
theorem saM_25 {ca : Nat → ClassId} {a : Nat → Nat} {t : fw_S} {f : Nat → Int32} : (WM ca a t).set 25 (a 25, .inl (ca 0, 32, .inl (f))) = WM ca a (up_F t 21 f) := rfl
theorem haM_26 (ca : Nat → ClassId) (a : Nat → Nat) (t : fw_S) : (WM ca a t)[26]? = some (a 26, .inl (ca 0, 32, .inl (st_F t 22))) := rfl
theorem saM_26 {ca : Nat → ClassId} {a : Nat → Nat} {t : fw_S} {f : Nat → Int32} : (WM ca a t).set 26 (a 26, .inl (ca 0, 32, .inl (f))) = WM ca a (up_F t 22 f) := rfl
theorem haM_27 (ca : Nat → ClassId) (a : Nat → Nat) (t : fw_S) : (WM ca a t)[27]? = some (a 27, .inl (ca 0, 32, .inl (st_F t 23))) := rfl
theorem saM_27 {ca : Nat → ClassId} {a : Nat → Nat} {t : fw_S} {f : Nat → Int32} : (WM ca a t).set 27 (a 27, .inl (ca 0, 32, .inl (f))) = WM ca a (up_F t 23 f) := rfl
theorem haM_28 (ca : Nat → ClassId) (a : Nat → Nat) (t : fw_S) : (WM ca a t)[28]? = some (a 28, .inl (ca 0, 32, .inl (st_F t 24))) := rfl
theorem saM_28 {ca : Nat → ClassId} {a : Nat → Nat} {t : fw_S} {f : Nat → Int32} : (WM ca a t).set 28 (a 28, .inl (ca 0, 32, .inl (f))) = WM ca a (up_F t 24 f) := rfl
theorem haM_29 (ca : Nat → ClassId) (a : Nat → Nat) (t : fw_S) : (WM ca a t)[29]? = some (a 29, .inl (ca 0, 1024, .inl (st_F t 25))) := rfl
theorem saM_29 {ca : Nat → ClassId} {a : Nat → Nat} {t : fw_S} {f : Nat → Int32} : (WM ca a t).set 29 (a 29, .inl (ca 0, 1024, .inl (f))) = WM ca a (up_F t 25 f) := rfl
theorem haM_30 (ca : Nat → ClassId) (a : Nat → Nat) (t : fw_S) : (WM ca a t)[30]? = some (a 30, .inl (ca 1, 32, .inr (.inl (st_G t 3)))) := rfl
theorem saM_30 {ca : Nat → ClassId} {a : Nat → Nat} {t : fw_S} {f : Nat → Int64} : (WM ca a t).set 30 (a 30, .inl (ca 1, 32, .inr (.inl (f)))) = WM ca a (up_G t 3 f) := rfl
theorem haM_31 (ca : Nat → ClassId) (a : Nat → Nat) (t : fw_S) : (WM ca a t)[31]? = some (a 31, .inl (ca 2, 32, .inl (st_F t 26))) := rfl
theorem saM_31 {ca : Nat → ClassId} {a : Nat → Nat} {t : fw_S} {f : Nat → Int32} : (WM ca a t).set 31 (a 31, .inl (ca 2, 32, .inl (f))) = WM ca a (up_F t 26 f) := rfl
theorem haM_32 (ca : Nat → ClassId) (a : Nat → Nat) (t : fw_S) : (WM ca a t)[32]? = some (a 32, .inl (ca 2, 32, .inl (st_F t 27))) := rfl
theorem saM_32 {ca : Nat → ClassId} {a : Nat → Nat} {t : fw_S} {f : Nat → Int32} : (WM ca a t).set 32 (a 32, .inl (ca 2, 32, .inl (f))) = WM ca a (up_F t 27 f) := rfl
theorem haM_33 (ca : Nat → ClassId) (a : Nat → Nat) (t : fw_S) : (WM ca a t)[33]? = some (a 33, .inl (ca 0, 32, .inl (st_F t 28))) := rfl
theorem saM_33 {ca : Nat → ClassId} {a : Nat → Nat} {t : fw_S} {f : Nat → Int32} : (WM ca a t).set 33 (a 33, .inl (ca 0, 32, .inl (f))) = WM ca a (up_F t 28 f) := rfl
theorem haM_34 (ca : Nat → ClassId) (a : Nat → Nat) (t : fw_S) : (WM ca a t)[34]? = some (a 34, .inl (ca 0, 120, .inl (st_F t 29))) := rfl
theorem saM_34 {ca : Nat → ClassId} {a : Nat → Nat} {t : fw_S} {f : Nat → Int32} : (WM ca a t).set 34 (a 34, .inl (ca 0, 120, .inl (f))) = WM ca a (up_F t 29 f) := rfl
theorem haM_35 (ca : Nat → ClassId) (a : Nat → Nat) (t : fw_S) : (WM ca a t)[35]? = some (a 35, .inl (ca 0, 400, .inl (st_F t 30))) := rfl
theorem saM_35 {ca : Nat → ClassId} {a : Nat → Nat} {t : fw_S} {f : Nat → Int32} : (WM ca a t).set 35 (a 35, .inl (ca 0, 400, .inl (f))) = WM ca a (up_F t 30 f) := rfl
theorem haM_36 (ca : Nat → ClassId) (a : Nat → Nat) (t : fw_S) : (WM ca a t)[36]? = some (a 36, .inl (ca 0, 8, .inl (st_F t 31))) := rfl
theorem saM_36 {ca : Nat → ClassId} {a : Nat → Nat} {t : fw_S} {f : Nat → Int32} : (WM ca a t).set 36 (a 36, .inl (ca 0, 8, .inl (f))) = WM ca a (up_F t 31 f) := rfl
theorem haM_37 (ca : Nat → ClassId) (a : Nat → Nat) (t : fw_S) : (WM ca a t)[37]? = some (a 37, .inl (ca 0, 8, .inl (st_F t 32))) := rfl
theorem saM_37 {ca : Nat → ClassId} {a : Nat → Nat} {t : fw_S} {f : Nat → Int32} : (WM ca a t).set 37 (a 37, .inl (ca 0, 8, .inl (f))) = WM ca a (up_F t 32 f) := rfl
theorem haM_38 (ca : Nat → ClassId) (a : Nat → Nat) (t : fw_S) : (WM ca a t)[38]? = some (a 38, .inl (ca 0, 60, .inl (st_F t 33))) := rfl
theorem saM_38 {ca : Nat → ClassId} {a : Nat → Nat} {t : fw_S} {f : Nat → Int32} : (WM ca a t).set 38 (a 38, .inl (ca 0, 60, .inl (f))) = WM ca a (up_F t 33 f) := rfl
theorem haM_39 (ca : Nat → ClassId) (a : Nat → Nat) (t : fw_S) : (WM ca a t)[39]? = some (a 39, .inl (ca 0, 60, .inl (st_F t 34))) := rfl
theorem saM_39 {ca : Nat → ClassId} {a : Nat → Nat} {t : fw_S} {f : Nat → Int32} : (WM ca a t).set 39 (a 39, .inl (ca 0, 60, .inl (f))) = WM ca a (up_F t 34 f) := rfl
theorem haM_40 (ca : Nat → ClassId) (a : Nat → Nat) (t : fw_S) : (WM ca a t)[40]? = some (a 40, .inl (ca 0, 60, .inl (st_F t 35))) := rfl
theorem saM_40 {ca : Nat → ClassId} {a : Nat → Nat} {t : fw_S} {f : Nat → Int32} : (WM ca a t).set 40 (a 40, .inl (ca 0, 60, .inl (f))) = WM ca a (up_F t 35 f) := rfl
theorem haM_41 (ca : Nat → ClassId) (a : Nat → Nat) (t : fw_S) : (WM ca a t)[41]? = some (a 41, .inl (ca 2, 8, .inl (st_F t 36))) := rfl
theorem saM_41 {ca : Nat → ClassId} {a : Nat → Nat} {t : fw_S} {f : Nat → Int32} : (WM ca a t).set 41 (a 41, .inl (ca 2, 8, .inl (f))) = WM ca a (up_F t 36 f) := rfl
theorem haM_42 (ca : Nat → ClassId) (a : Nat → Nat) (t : fw_S) : (WM ca a t)[42]? = some (a 42, .inl (ca 1, 8, .inr (.inl (st_G t 4)))) := rfl
theorem saM_42 {ca : Nat → ClassId} {a : Nat → Nat} {t : fw_S} {f : Nat → Int64} : (WM ca a t).set 42 (a 42, .inl (ca 1, 8, .inr (.inl (f)))) = WM ca a (up_G t 4 f) := rfl
theorem haM_43 (ca : Nat → ClassId) (a : Nat → Nat) (t : fw_S) : (WM ca a t)[43]? = some (a 43, .inl (ca 1, 60, .inr (.inl (st_G t 5)))) := rfl
theorem saM_43 {ca : Nat → ClassId} {a : Nat → Nat} {t : fw_S} {f : Nat → Int64} : (WM ca a t).set 43 (a 43, .inl (ca 1, 60, .inr (.inl (f)))) = WM ca a (up_G t 5 f) := rfl
theorem haM_44 (ca : Nat → ClassId) (a : Nat → Nat) (t : fw_S) : (WM ca a t)[44]? = some (a 44, .inl (ca 1, 60, .inr (.inl (st_G t 6)))) := rfl
theorem saM_44 {ca : Nat → ClassId} {a : Nat → Nat} {t : fw_S} {f : Nat → Int64} : (WM ca a t).set 44 (a 44, .inl (ca 1, 60, .inr (.inl (f)))) = WM ca a (up_G t 6 f) := rfl
theorem haM_45 (ca : Nat → ClassId) (a : Nat → Nat) (t : fw_S) : (WM ca a t)[45]? = some (a 45, .inl (ca 0, 80, .inl (st_F t 37))) := rfl
theorem saM_45 {ca : Nat → ClassId} {a : Nat → Nat} {t : fw_S} {f : Nat → Int32} : (WM ca a t).set 45 (a 45, .inl (ca 0, 80, .inl (f))) = WM ca a (up_F t 37 f) := rfl
theorem haM_46 (ca : Nat → ClassId) (a : Nat → Nat) (t : fw_S) : (WM ca a t)[46]? = some (a 46, .inl (ca 1, 160, .inr (.inl (st_G t 7)))) := rfl
theorem saM_46 {ca : Nat → ClassId} {a : Nat → Nat} {t : fw_S} {f : Nat → Int64} : (WM ca a t).set 46 (a 46, .inl (ca 1, 160, .inr (.inl (f)))) = WM ca a (up_G t 7 f) := rfl
theorem haM_47 (ca : Nat → ClassId) (a : Nat → Nat) (t : fw_S) : (WM ca a t)[47]? = some (a 47, .inl (ca 0, 4, .inl (st_F t 38))) := rfl
theorem saM_47 {ca : Nat → ClassId} {a : Nat → Nat} {t : fw_S} {f : Nat → Int32} : (WM ca a t).set 47 (a 47, .inl (ca 0, 4, .inl (f))) = WM ca a (up_F t 38 f) := rfl
theorem haM_48 (ca : Nat → ClassId) (a : Nat → Nat) (t : fw_S) : (WM ca a t)[48]? = some (a 48, .inl (ca 0, 2000, .inl (st_F t 39))) := rfl
theorem saM_48 {ca : Nat → ClassId} {a : Nat → Nat} {t : fw_S} {f : Nat → Int32} : (WM ca a t).set 48 (a 48, .inl (ca 0, 2000, .inl (f))) = WM ca a (up_F t 39 f) := rfl
theorem haM_49 (ca : Nat → ClassId) (a : Nat → Nat) (t : fw_S) : (WM ca a t)[49]? = some (a 49, .inl (ca 1, 200, .inr (.inl (st_G t 8)))) := rfl
theorem saM_49 {ca : Nat → ClassId} {a : Nat → Nat} {t : fw_S} {f : Nat → Int64} : (WM ca a t).set 49 (a 49, .inl (ca 1, 200, .inr (.inl (f)))) = WM ca a (up_G t 8 f) := rfl
theorem haM_50 (ca : Nat → ClassId) (a : Nat → Nat) (t : fw_S) : (WM ca a t)[50]? = some (a 50, .inl (ca 0, 32, .inl (st_F t 40))) := rfl
theorem saM_50 {ca : Nat → ClassId} {a : Nat → Nat} {t : fw_S} {f : Nat → Int32} : (WM ca a t).set 50 (a 50, .inl (ca 0, 32, .inl (f))) = WM ca a (up_F t 40 f) := rfl
theorem haM_51 (ca : Nat → ClassId) (a : Nat → Nat) (t : fw_S) : (WM ca a t)[51]? = some (a 51, .inl (ca 0, 32, .inl (st_F t 41))) := rfl
theorem saM_51 {ca : Nat → ClassId} {a : Nat → Nat} {t : fw_S} {f : Nat → Int32} : (WM ca a t).set 51 (a 51, .inl (ca 0, 32, .inl (f))) = WM ca a (up_F t 41 f) := rfl
theorem haM_52 (ca : Nat → ClassId) (a : Nat → Nat) (t : fw_S) : (WM ca a t)[52]? = some (a 52, .inl (ca 0, 32, .inl (st_F t 42))) := rfl
theorem saM_52 {ca : Nat → ClassId} {a : Nat → Nat} {t : fw_S} {f : Nat → Int32} : (WM ca a t).set 52 (a 52, .inl (ca 0, 32, .inl (f))) = WM ca a (up_F t 42 f) := rfl
theorem haM_53 (ca : Nat → ClassId) (a : Nat → Nat) (t : fw_S) : (WM ca a t)[53]? = some (a 53, .inl (ca 0, 2, .inl (st_F t 43))) := rfl
theorem saM_53 {ca : Nat → ClassId} {a : Nat → Nat} {t : fw_S} {f : Nat → Int32} : (WM ca a t).set 53 (a 53, .inl (ca 0, 2, .inl (f))) = WM ca a (up_F t 43 f) := rfl
