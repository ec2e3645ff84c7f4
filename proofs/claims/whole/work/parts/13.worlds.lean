/-! ===== worlds ===== -/
def oC (ac : Nat → Nat) (κ : US) : List Value := [.ref (ac 1), .ref (ac 2), .ref (ac 3), .int (iI κ 0)]
def wC (kc : Nat → ClassId) (ac : Nat → Nat) (κ : US) : va_W := [(ac 0, .inr (4, oC ac κ)), (ac 1, .inl (kc 0, 64, .inl (aA κ 0))), (ac 2, .inl (kc 0, 8, .inl (aA κ 1))), (ac 3, .inl (kc 0, 8, .inl (aA κ 2)))]
def oE (ae : Nat → Nat) (ε : US) : List Value := [.ref (ae 1)]
def wE (kc : Nat → ClassId) (ae : Nat → Nat) (ε : US) : va_W := [(ae 0, .inr (5, oE ae ε)), (ae 1, .inl (kc 1, 72, .inr (.inl (aB ε 0))))]
def oMo (am : Nat → Nat) (ac : Nat → Nat) (ae : Nat → Nat) (σ : US) : List Value := [.ref (ac 0), .ref (ae 0), .ref (am 1), .ref (am 2), .ref (am 3), .ref (am 4)]
def wMo (kc : Nat → ClassId) (am : Nat → Nat) (ac : Nat → Nat) (ae : Nat → Nat) (σ : US) : va_W := [(am 0, .inr (10, oMo am ac ae σ)), (am 1, .inl (kc 1, 8, .inr (.inl (aB σ 0)))), (am 2, .inl (kc 1, 8, .inr (.inl (aB σ 1)))), (am 3, .inl (kc 1, 8, .inr (.inl (aB σ 2)))), (am 4, .inl (kc 1, 8, .inr (.inl (aB σ 3))))]
def oLu (al : Nat → Nat) (ac : Nat → Nat) (σ : US) : List Value := [.ref (ac 0), .ref (al 1), .ref (al 2), .int (iI σ 0)]
def wLu (kc : Nat → ClassId) (al : Nat → Nat) (ac : Nat → Nat) (σ : US) : va_W := [(al 0, .inr (9, oLu al ac σ)), (al 1, .inl (kc 0, 8, .inl (aA σ 0))), (al 2, .inl (kc 0, 8, .inl (aA σ 1)))]
def oBp (ab : Nat → Nat) (ac : Nat → Nat) (σ : US) : List Value := [.ref (ac 0), .ref (ab 1), .ref (ab 2), .ref (ab 3), .int (iI σ 0)]
def wBp (kc : Nat → ClassId) (ab : Nat → Nat) (ac : Nat → Nat) (σ : US) : va_W := [(ab 0, .inr (2, oBp ab ac σ)), (ab 1, .inl (kc 1, 8, .inr (.inl (aB σ 0)))), (ab 2, .inl (kc 1, 8, .inr (.inl (aB σ 1)))), (ab 3, .inl (kc 0, 8, .inl (aA σ 0)))]
def oM (a : Nat → Nat) (σ : US) : List Value := [.ref (a 1), .ref (a 2), .int (iI σ 0), .ref (a 3), .int (iI σ 1), .ref (a 4), .ref (a 5), .long (lJ σ 0), .long (lJ σ 1), .ref (a 6), .int (iI σ 2), .long (lJ σ 2), .ref (a 7), .ref (a 8), .ref (a 9), .ref (a 10), .int (iI σ 3), .ref (a 11), .ref (a 12), .ref (a 13), .ref (a 14), .ref (a 15), .ref (a 16), .ref (a 17), .int (iI σ 4), .ref (a 18), .ref (a 19), .ref (a 20), .ref (a 21), .ref (a 22), .int (iI σ 5), .int (iI σ 6), .int (iI σ 7), .int (iI σ 8), .int (iI σ 9), .int (iI σ 10), .int (iI σ 11), .ref (a 23), .ref (a 24), .ref (a 25)]
def wM (kc : Nat → ClassId) (a : Nat → Nat) (σ : US) : va_W := [(a 0, .inr (14, oM a σ)), (a 1, .inl (kc 0, 81, .inl (aA σ 0))), (a 2, .inl (kc 0, 81, .inl (aA σ 1))), (a 3, .inl (kc 0, 648, .inl (aA σ 2))), (a 4, .inl (kc 0, 8, .inl (aA σ 3))), (a 5, .inl (kc 0, 8, .inl (aA σ 4))), (a 6, .inl (kc 1, 72, .inr (.inl (aB σ 0)))), (a 7, .inl (kc 0, 8, .inl (aA σ 5))), (a 8, .inl (kc 1, 8, .inr (.inl (aB σ 1)))), (a 9, .inl (kc 1, 8, .inr (.inl (aB σ 2)))), (a 10, .inl (kc 1, 8, .inr (.inl (aB σ 3)))), (a 11, .inl (kc 0, 300, .inl (aA σ 6))), (a 12, .inl (kc 0, 300, .inl (aA σ 7))), (a 13, .inl (kc 0, 300, .inl (aA σ 8))), (a 14, .inl (kc 0, 300, .inl (aA σ 9))), (a 15, .inl (kc 0, 300, .inl (aA σ 10))), (a 16, .inl (kc 0, 300, .inl (aA σ 11))), (a 17, .inl (kc 0, 300, .inl (aA σ 12))), (a 18, .inl (kc 0, 6, .inl (aA σ 13))), (a 19, .inl (kc 0, 7, .inl (aA σ 14))), (a 20, .inl (kc 0, 300, .inl (aA σ 15))), (a 21, .inl (kc 0, 6, .inl (aA σ 16))), (a 22, .inl (kc 0, 50, .inl (aA σ 17))), (a 23, .inl (kc 1, 8, .inr (.inl (aB σ 4)))), (a 24, .inl (kc 1, 8, .inr (.inl (aB σ 5)))), (a 25, .inl (kc 0, 8, .inl (aA σ 18)))]
def oBd (ax : Nat → Nat) (β : US) : List Value := [.int (iI β 0), .int (iI β 1), .int (iI β 2), .int (iI β 3)]
def wBd (kc : Nat → ClassId) (ax : Nat → Nat) (β : US) : va_W := [(ax 0, .inr (3, oBd ax β))]
theorem gC_0 (kc : Nat → ClassId) (ac : Nat → Nat) (κ : US) : (wC kc ac κ)[0]? = some (ac 0, .inr (4, oC ac κ)) := rfl
theorem gC_1 (kc : Nat → ClassId) (ac : Nat → Nat) (κ : US) : (wC kc ac κ)[1]? = some (ac 1, .inl (kc 0, 64, .inl (aA κ 0))) := rfl
theorem sC_1 (kc : Nat → ClassId) (ac : Nat → Nat) (κ : US) (f : Nat → Int32) : (wC kc ac κ).set 1 (ac 1, .inl (kc 0, 64, .inl f)) = (wC kc ac (sA κ 0 f)) := rfl
theorem gC_2 (kc : Nat → ClassId) (ac : Nat → Nat) (κ : US) : (wC kc ac κ)[2]? = some (ac 2, .inl (kc 0, 8, .inl (aA κ 1))) := rfl
theorem sC_2 (kc : Nat → ClassId) (ac : Nat → Nat) (κ : US) (f : Nat → Int32) : (wC kc ac κ).set 2 (ac 2, .inl (kc 0, 8, .inl f)) = (wC kc ac (sA κ 1 f)) := rfl
theorem gC_3 (kc : Nat → ClassId) (ac : Nat → Nat) (κ : US) : (wC kc ac κ)[3]? = some (ac 3, .inl (kc 0, 8, .inl (aA κ 2))) := rfl
theorem sC_3 (kc : Nat → ClassId) (ac : Nat → Nat) (κ : US) (f : Nat → Int32) : (wC kc ac κ).set 3 (ac 3, .inl (kc 0, 8, .inl f)) = (wC kc ac (sA κ 2 f)) := rfl
theorem pC_0_3 (kc : Nat → ClassId) (ac : Nat → Nat) (κ : US) (x : Int32) : (wC kc ac κ).set 0 (ac 0, .inr (4, (oC ac κ).set 3 (.int x))) = (wC kc ac (uI κ 0 x)) := rfl
theorem gE_0 (kc : Nat → ClassId) (ae : Nat → Nat) (ε : US) : (wE kc ae ε)[0]? = some (ae 0, .inr (5, oE ae ε)) := rfl
theorem gE_1 (kc : Nat → ClassId) (ae : Nat → Nat) (ε : US) : (wE kc ae ε)[1]? = some (ae 1, .inl (kc 1, 72, .inr (.inl (aB ε 0)))) := rfl
theorem sE_1 (kc : Nat → ClassId) (ae : Nat → Nat) (ε : US) (f : Nat → Int64) : (wE kc ae ε).set 1 (ae 1, .inl (kc 1, 72, .inr (.inl f))) = (wE kc ae (sB ε 0 f)) := rfl
def xMo (kc : Nat → ClassId) (am : Nat → Nat) (ae : Nat → Nat) (ac : Nat → Nat) (σ : US) (ε : US) (κ : US) : va_W := wMo kc am ac ae σ ++ (wE kc ae ε ++ (wC kc ac κ))
theorem gMo_0 (kc : Nat → ClassId) (am : Nat → Nat) (ae : Nat → Nat) (ac : Nat → Nat) (σ : US) (ε : US) (κ : US) : (xMo kc am ae ac σ ε κ)[0]? = some (am 0, .inr (10, oMo am ac ae σ)) := rfl
theorem gMo_1 (kc : Nat → ClassId) (am : Nat → Nat) (ae : Nat → Nat) (ac : Nat → Nat) (σ : US) (ε : US) (κ : US) : (xMo kc am ae ac σ ε κ)[1]? = some (am 1, .inl (kc 1, 8, .inr (.inl (aB σ 0)))) := rfl
theorem sMo_1 (kc : Nat → ClassId) (am : Nat → Nat) (ae : Nat → Nat) (ac : Nat → Nat) (σ : US) (ε : US) (κ : US) (f : Nat → Int64) : (xMo kc am ae ac σ ε κ).set 1 (am 1, .inl (kc 1, 8, .inr (.inl f))) = (xMo kc am ae ac (sB σ 0 f) ε κ) := rfl
theorem gMo_2 (kc : Nat → ClassId) (am : Nat → Nat) (ae : Nat → Nat) (ac : Nat → Nat) (σ : US) (ε : US) (κ : US) : (xMo kc am ae ac σ ε κ)[2]? = some (am 2, .inl (kc 1, 8, .inr (.inl (aB σ 1)))) := rfl
theorem sMo_2 (kc : Nat → ClassId) (am : Nat → Nat) (ae : Nat → Nat) (ac : Nat → Nat) (σ : US) (ε : US) (κ : US) (f : Nat → Int64) : (xMo kc am ae ac σ ε κ).set 2 (am 2, .inl (kc 1, 8, .inr (.inl f))) = (xMo kc am ae ac (sB σ 1 f) ε κ) := rfl
theorem gMo_3 (kc : Nat → ClassId) (am : Nat → Nat) (ae : Nat → Nat) (ac : Nat → Nat) (σ : US) (ε : US) (κ : US) : (xMo kc am ae ac σ ε κ)[3]? = some (am 3, .inl (kc 1, 8, .inr (.inl (aB σ 2)))) := rfl
theorem sMo_3 (kc : Nat → ClassId) (am : Nat → Nat) (ae : Nat → Nat) (ac : Nat → Nat) (σ : US) (ε : US) (κ : US) (f : Nat → Int64) : (xMo kc am ae ac σ ε κ).set 3 (am 3, .inl (kc 1, 8, .inr (.inl f))) = (xMo kc am ae ac (sB σ 2 f) ε κ) := rfl
theorem gMo_4 (kc : Nat → ClassId) (am : Nat → Nat) (ae : Nat → Nat) (ac : Nat → Nat) (σ : US) (ε : US) (κ : US) : (xMo kc am ae ac σ ε κ)[4]? = some (am 4, .inl (kc 1, 8, .inr (.inl (aB σ 3)))) := rfl
theorem sMo_4 (kc : Nat → ClassId) (am : Nat → Nat) (ae : Nat → Nat) (ac : Nat → Nat) (σ : US) (ε : US) (κ : US) (f : Nat → Int64) : (xMo kc am ae ac σ ε κ).set 4 (am 4, .inl (kc 1, 8, .inr (.inl f))) = (xMo kc am ae ac (sB σ 3 f) ε κ) := rfl
theorem xMo_0 (kc : Nat → ClassId) (am : Nat → Nat) (ae : Nat → Nat) (ac : Nat → Nat) (σ : US) (ε : US) (κ : US) : (xMo kc am ae ac σ ε κ) = ([] : va_W) ++ ((wMo kc am ac ae σ) ++ ((wE kc ae ε) ++ (wC kc ac κ) : va_W)) := rfl
theorem gMo_5 (kc : Nat → ClassId) (am : Nat → Nat) (ae : Nat → Nat) (ac : Nat → Nat) (σ : US) (ε : US) (κ : US) : (xMo kc am ae ac σ ε κ)[5]? = some (ae 0, .inr (5, oE ae ε)) := rfl
theorem gMo_6 (kc : Nat → ClassId) (am : Nat → Nat) (ae : Nat → Nat) (ac : Nat → Nat) (σ : US) (ε : US) (κ : US) : (xMo kc am ae ac σ ε κ)[6]? = some (ae 1, .inl (kc 1, 72, .inr (.inl (aB ε 0)))) := rfl
theorem sMo_6 (kc : Nat → ClassId) (am : Nat → Nat) (ae : Nat → Nat) (ac : Nat → Nat) (σ : US) (ε : US) (κ : US) (f : Nat → Int64) : (xMo kc am ae ac σ ε κ).set 6 (ae 1, .inl (kc 1, 72, .inr (.inl f))) = (xMo kc am ae ac σ (sB ε 0 f) κ) := rfl
theorem xMo_1 (kc : Nat → ClassId) (am : Nat → Nat) (ae : Nat → Nat) (ac : Nat → Nat) (σ : US) (ε : US) (κ : US) : (xMo kc am ae ac σ ε κ) = ((wMo kc am ac ae σ) : va_W) ++ ((wE kc ae ε) ++ ((wC kc ac κ) : va_W)) := rfl
theorem gMo_7 (kc : Nat → ClassId) (am : Nat → Nat) (ae : Nat → Nat) (ac : Nat → Nat) (σ : US) (ε : US) (κ : US) : (xMo kc am ae ac σ ε κ)[7]? = some (ac 0, .inr (4, oC ac κ)) := rfl
theorem gMo_8 (kc : Nat → ClassId) (am : Nat → Nat) (ae : Nat → Nat) (ac : Nat → Nat) (σ : US) (ε : US) (κ : US) : (xMo kc am ae ac σ ε κ)[8]? = some (ac 1, .inl (kc 0, 64, .inl (aA κ 0))) := rfl
theorem sMo_8 (kc : Nat → ClassId) (am : Nat → Nat) (ae : Nat → Nat) (ac : Nat → Nat) (σ : US) (ε : US) (κ : US) (f : Nat → Int32) : (xMo kc am ae ac σ ε κ).set 8 (ac 1, .inl (kc 0, 64, .inl f)) = (xMo kc am ae ac σ ε (sA κ 0 f)) := rfl
theorem gMo_9 (kc : Nat → ClassId) (am : Nat → Nat) (ae : Nat → Nat) (ac : Nat → Nat) (σ : US) (ε : US) (κ : US) : (xMo kc am ae ac σ ε κ)[9]? = some (ac 2, .inl (kc 0, 8, .inl (aA κ 1))) := rfl
theorem sMo_9 (kc : Nat → ClassId) (am : Nat → Nat) (ae : Nat → Nat) (ac : Nat → Nat) (σ : US) (ε : US) (κ : US) (f : Nat → Int32) : (xMo kc am ae ac σ ε κ).set 9 (ac 2, .inl (kc 0, 8, .inl f)) = (xMo kc am ae ac σ ε (sA κ 1 f)) := rfl
theorem gMo_10 (kc : Nat → ClassId) (am : Nat → Nat) (ae : Nat → Nat) (ac : Nat → Nat) (σ : US) (ε : US) (κ : US) : (xMo kc am ae ac σ ε κ)[10]? = some (ac 3, .inl (kc 0, 8, .inl (aA κ 2))) := rfl
theorem sMo_10 (kc : Nat → ClassId) (am : Nat → Nat) (ae : Nat → Nat) (ac : Nat → Nat) (σ : US) (ε : US) (κ : US) (f : Nat → Int32) : (xMo kc am ae ac σ ε κ).set 10 (ac 3, .inl (kc 0, 8, .inl f)) = (xMo kc am ae ac σ ε (sA κ 2 f)) := rfl
theorem pMo_7_3 (kc : Nat → ClassId) (am : Nat → Nat) (ae : Nat → Nat) (ac : Nat → Nat) (σ : US) (ε : US) (κ : US) (x : Int32) : (xMo kc am ae ac σ ε κ).set 7 (ac 0, .inr (4, (oC ac κ).set 3 (.int x))) = (xMo kc am ae ac σ ε (uI κ 0 x)) := rfl
theorem xMo_2 (kc : Nat → ClassId) (am : Nat → Nat) (ae : Nat → Nat) (ac : Nat → Nat) (σ : US) (ε : US) (κ : US) : (xMo kc am ae ac σ ε κ) = ((wMo kc am ac ae σ) ++ (wE kc ae ε) : va_W) ++ ((wC kc ac κ) ++ ([] : va_W)) := rfl
def xLu (kc : Nat → ClassId) (al : Nat → Nat) (ac : Nat → Nat) (σ : US) (κ : US) : va_W := wLu kc al ac σ ++ (wC kc ac κ)
theorem gLu_0 (kc : Nat → ClassId) (al : Nat → Nat) (ac : Nat → Nat) (σ : US) (κ : US) : (xLu kc al ac σ κ)[0]? = some (al 0, .inr (9, oLu al ac σ)) := rfl
theorem gLu_1 (kc : Nat → ClassId) (al : Nat → Nat) (ac : Nat → Nat) (σ : US) (κ : US) : (xLu kc al ac σ κ)[1]? = some (al 1, .inl (kc 0, 8, .inl (aA σ 0))) := rfl
theorem sLu_1 (kc : Nat → ClassId) (al : Nat → Nat) (ac : Nat → Nat) (σ : US) (κ : US) (f : Nat → Int32) : (xLu kc al ac σ κ).set 1 (al 1, .inl (kc 0, 8, .inl f)) = (xLu kc al ac (sA σ 0 f) κ) := rfl
theorem gLu_2 (kc : Nat → ClassId) (al : Nat → Nat) (ac : Nat → Nat) (σ : US) (κ : US) : (xLu kc al ac σ κ)[2]? = some (al 2, .inl (kc 0, 8, .inl (aA σ 1))) := rfl
theorem sLu_2 (kc : Nat → ClassId) (al : Nat → Nat) (ac : Nat → Nat) (σ : US) (κ : US) (f : Nat → Int32) : (xLu kc al ac σ κ).set 2 (al 2, .inl (kc 0, 8, .inl f)) = (xLu kc al ac (sA σ 1 f) κ) := rfl
theorem pLu_0_3 (kc : Nat → ClassId) (al : Nat → Nat) (ac : Nat → Nat) (σ : US) (κ : US) (x : Int32) : (xLu kc al ac σ κ).set 0 (al 0, .inr (9, (oLu al ac σ).set 3 (.int x))) = (xLu kc al ac (uI σ 0 x) κ) := rfl
theorem xLu_0 (kc : Nat → ClassId) (al : Nat → Nat) (ac : Nat → Nat) (σ : US) (κ : US) : (xLu kc al ac σ κ) = ([] : va_W) ++ ((wLu kc al ac σ) ++ ((wC kc ac κ) : va_W)) := rfl
theorem gLu_3 (kc : Nat → ClassId) (al : Nat → Nat) (ac : Nat → Nat) (σ : US) (κ : US) : (xLu kc al ac σ κ)[3]? = some (ac 0, .inr (4, oC ac κ)) := rfl
theorem gLu_4 (kc : Nat → ClassId) (al : Nat → Nat) (ac : Nat → Nat) (σ : US) (κ : US) : (xLu kc al ac σ κ)[4]? = some (ac 1, .inl (kc 0, 64, .inl (aA κ 0))) := rfl
theorem sLu_4 (kc : Nat → ClassId) (al : Nat → Nat) (ac : Nat → Nat) (σ : US) (κ : US) (f : Nat → Int32) : (xLu kc al ac σ κ).set 4 (ac 1, .inl (kc 0, 64, .inl f)) = (xLu kc al ac σ (sA κ 0 f)) := rfl
theorem gLu_5 (kc : Nat → ClassId) (al : Nat → Nat) (ac : Nat → Nat) (σ : US) (κ : US) : (xLu kc al ac σ κ)[5]? = some (ac 2, .inl (kc 0, 8, .inl (aA κ 1))) := rfl
theorem sLu_5 (kc : Nat → ClassId) (al : Nat → Nat) (ac : Nat → Nat) (σ : US) (κ : US) (f : Nat → Int32) : (xLu kc al ac σ κ).set 5 (ac 2, .inl (kc 0, 8, .inl f)) = (xLu kc al ac σ (sA κ 1 f)) := rfl
theorem gLu_6 (kc : Nat → ClassId) (al : Nat → Nat) (ac : Nat → Nat) (σ : US) (κ : US) : (xLu kc al ac σ κ)[6]? = some (ac 3, .inl (kc 0, 8, .inl (aA κ 2))) := rfl
theorem sLu_6 (kc : Nat → ClassId) (al : Nat → Nat) (ac : Nat → Nat) (σ : US) (κ : US) (f : Nat → Int32) : (xLu kc al ac σ κ).set 6 (ac 3, .inl (kc 0, 8, .inl f)) = (xLu kc al ac σ (sA κ 2 f)) := rfl
theorem pLu_3_3 (kc : Nat → ClassId) (al : Nat → Nat) (ac : Nat → Nat) (σ : US) (κ : US) (x : Int32) : (xLu kc al ac σ κ).set 3 (ac 0, .inr (4, (oC ac κ).set 3 (.int x))) = (xLu kc al ac σ (uI κ 0 x)) := rfl
theorem xLu_1 (kc : Nat → ClassId) (al : Nat → Nat) (ac : Nat → Nat) (σ : US) (κ : US) : (xLu kc al ac σ κ) = ((wLu kc al ac σ) : va_W) ++ ((wC kc ac κ) ++ ([] : va_W)) := rfl
def xBp (kc : Nat → ClassId) (ab : Nat → Nat) (ac : Nat → Nat) (σ : US) (κ : US) : va_W := wBp kc ab ac σ ++ (wC kc ac κ)
theorem gBp_0 (kc : Nat → ClassId) (ab : Nat → Nat) (ac : Nat → Nat) (σ : US) (κ : US) : (xBp kc ab ac σ κ)[0]? = some (ab 0, .inr (2, oBp ab ac σ)) := rfl
theorem gBp_1 (kc : Nat → ClassId) (ab : Nat → Nat) (ac : Nat → Nat) (σ : US) (κ : US) : (xBp kc ab ac σ κ)[1]? = some (ab 1, .inl (kc 1, 8, .inr (.inl (aB σ 0)))) := rfl
theorem sBp_1 (kc : Nat → ClassId) (ab : Nat → Nat) (ac : Nat → Nat) (σ : US) (κ : US) (f : Nat → Int64) : (xBp kc ab ac σ κ).set 1 (ab 1, .inl (kc 1, 8, .inr (.inl f))) = (xBp kc ab ac (sB σ 0 f) κ) := rfl
theorem gBp_2 (kc : Nat → ClassId) (ab : Nat → Nat) (ac : Nat → Nat) (σ : US) (κ : US) : (xBp kc ab ac σ κ)[2]? = some (ab 2, .inl (kc 1, 8, .inr (.inl (aB σ 1)))) := rfl
theorem sBp_2 (kc : Nat → ClassId) (ab : Nat → Nat) (ac : Nat → Nat) (σ : US) (κ : US) (f : Nat → Int64) : (xBp kc ab ac σ κ).set 2 (ab 2, .inl (kc 1, 8, .inr (.inl f))) = (xBp kc ab ac (sB σ 1 f) κ) := rfl
theorem gBp_3 (kc : Nat → ClassId) (ab : Nat → Nat) (ac : Nat → Nat) (σ : US) (κ : US) : (xBp kc ab ac σ κ)[3]? = some (ab 3, .inl (kc 0, 8, .inl (aA σ 0))) := rfl
theorem sBp_3 (kc : Nat → ClassId) (ab : Nat → Nat) (ac : Nat → Nat) (σ : US) (κ : US) (f : Nat → Int32) : (xBp kc ab ac σ κ).set 3 (ab 3, .inl (kc 0, 8, .inl f)) = (xBp kc ab ac (sA σ 0 f) κ) := rfl
theorem pBp_0_4 (kc : Nat → ClassId) (ab : Nat → Nat) (ac : Nat → Nat) (σ : US) (κ : US) (x : Int32) : (xBp kc ab ac σ κ).set 0 (ab 0, .inr (2, (oBp ab ac σ).set 4 (.int x))) = (xBp kc ab ac (uI σ 0 x) κ) := rfl
theorem xBp_0 (kc : Nat → ClassId) (ab : Nat → Nat) (ac : Nat → Nat) (σ : US) (κ : US) : (xBp kc ab ac σ κ) = ([] : va_W) ++ ((wBp kc ab ac σ) ++ ((wC kc ac κ) : va_W)) := rfl
theorem gBp_4 (kc : Nat → ClassId) (ab : Nat → Nat) (ac : Nat → Nat) (σ : US) (κ : US) : (xBp kc ab ac σ κ)[4]? = some (ac 0, .inr (4, oC ac κ)) := rfl
theorem gBp_5 (kc : Nat → ClassId) (ab : Nat → Nat) (ac : Nat → Nat) (σ : US) (κ : US) : (xBp kc ab ac σ κ)[5]? = some (ac 1, .inl (kc 0, 64, .inl (aA κ 0))) := rfl
theorem sBp_5 (kc : Nat → ClassId) (ab : Nat → Nat) (ac : Nat → Nat) (σ : US) (κ : US) (f : Nat → Int32) : (xBp kc ab ac σ κ).set 5 (ac 1, .inl (kc 0, 64, .inl f)) = (xBp kc ab ac σ (sA κ 0 f)) := rfl
theorem gBp_6 (kc : Nat → ClassId) (ab : Nat → Nat) (ac : Nat → Nat) (σ : US) (κ : US) : (xBp kc ab ac σ κ)[6]? = some (ac 2, .inl (kc 0, 8, .inl (aA κ 1))) := rfl
theorem sBp_6 (kc : Nat → ClassId) (ab : Nat → Nat) (ac : Nat → Nat) (σ : US) (κ : US) (f : Nat → Int32) : (xBp kc ab ac σ κ).set 6 (ac 2, .inl (kc 0, 8, .inl f)) = (xBp kc ab ac σ (sA κ 1 f)) := rfl
theorem gBp_7 (kc : Nat → ClassId) (ab : Nat → Nat) (ac : Nat → Nat) (σ : US) (κ : US) : (xBp kc ab ac σ κ)[7]? = some (ac 3, .inl (kc 0, 8, .inl (aA κ 2))) := rfl
theorem sBp_7 (kc : Nat → ClassId) (ab : Nat → Nat) (ac : Nat → Nat) (σ : US) (κ : US) (f : Nat → Int32) : (xBp kc ab ac σ κ).set 7 (ac 3, .inl (kc 0, 8, .inl f)) = (xBp kc ab ac σ (sA κ 2 f)) := rfl
theorem pBp_4_3 (kc : Nat → ClassId) (ab : Nat → Nat) (ac : Nat → Nat) (σ : US) (κ : US) (x : Int32) : (xBp kc ab ac σ κ).set 4 (ac 0, .inr (4, (oC ac κ).set 3 (.int x))) = (xBp kc ab ac σ (uI κ 0 x)) := rfl
theorem xBp_1 (kc : Nat → ClassId) (ab : Nat → Nat) (ac : Nat → Nat) (σ : US) (κ : US) : (xBp kc ab ac σ κ) = ((wBp kc ab ac σ) : va_W) ++ ((wC kc ac κ) ++ ([] : va_W)) := rfl
theorem gM_0 (kc : Nat → ClassId) (a : Nat → Nat) (σ : US) : (wM kc a σ)[0]? = some (a 0, .inr (14, oM a σ)) := rfl
theorem gM_1 (kc : Nat → ClassId) (a : Nat → Nat) (σ : US) : (wM kc a σ)[1]? = some (a 1, .inl (kc 0, 81, .inl (aA σ 0))) := rfl
theorem sM_1 (kc : Nat → ClassId) (a : Nat → Nat) (σ : US) (f : Nat → Int32) : (wM kc a σ).set 1 (a 1, .inl (kc 0, 81, .inl f)) = (wM kc a (sA σ 0 f)) := rfl
theorem gM_2 (kc : Nat → ClassId) (a : Nat → Nat) (σ : US) : (wM kc a σ)[2]? = some (a 2, .inl (kc 0, 81, .inl (aA σ 1))) := rfl
theorem sM_2 (kc : Nat → ClassId) (a : Nat → Nat) (σ : US) (f : Nat → Int32) : (wM kc a σ).set 2 (a 2, .inl (kc 0, 81, .inl f)) = (wM kc a (sA σ 1 f)) := rfl
theorem gM_3 (kc : Nat → ClassId) (a : Nat → Nat) (σ : US) : (wM kc a σ)[3]? = some (a 3, .inl (kc 0, 648, .inl (aA σ 2))) := rfl
theorem sM_3 (kc : Nat → ClassId) (a : Nat → Nat) (σ : US) (f : Nat → Int32) : (wM kc a σ).set 3 (a 3, .inl (kc 0, 648, .inl f)) = (wM kc a (sA σ 2 f)) := rfl
theorem gM_4 (kc : Nat → ClassId) (a : Nat → Nat) (σ : US) : (wM kc a σ)[4]? = some (a 4, .inl (kc 0, 8, .inl (aA σ 3))) := rfl
theorem sM_4 (kc : Nat → ClassId) (a : Nat → Nat) (σ : US) (f : Nat → Int32) : (wM kc a σ).set 4 (a 4, .inl (kc 0, 8, .inl f)) = (wM kc a (sA σ 3 f)) := rfl
theorem gM_5 (kc : Nat → ClassId) (a : Nat → Nat) (σ : US) : (wM kc a σ)[5]? = some (a 5, .inl (kc 0, 8, .inl (aA σ 4))) := rfl
theorem sM_5 (kc : Nat → ClassId) (a : Nat → Nat) (σ : US) (f : Nat → Int32) : (wM kc a σ).set 5 (a 5, .inl (kc 0, 8, .inl f)) = (wM kc a (sA σ 4 f)) := rfl
theorem gM_6 (kc : Nat → ClassId) (a : Nat → Nat) (σ : US) : (wM kc a σ)[6]? = some (a 6, .inl (kc 1, 72, .inr (.inl (aB σ 0)))) := rfl
theorem sM_6 (kc : Nat → ClassId) (a : Nat → Nat) (σ : US) (f : Nat → Int64) : (wM kc a σ).set 6 (a 6, .inl (kc 1, 72, .inr (.inl f))) = (wM kc a (sB σ 0 f)) := rfl
theorem gM_7 (kc : Nat → ClassId) (a : Nat → Nat) (σ : US) : (wM kc a σ)[7]? = some (a 7, .inl (kc 0, 8, .inl (aA σ 5))) := rfl
theorem sM_7 (kc : Nat → ClassId) (a : Nat → Nat) (σ : US) (f : Nat → Int32) : (wM kc a σ).set 7 (a 7, .inl (kc 0, 8, .inl f)) = (wM kc a (sA σ 5 f)) := rfl
theorem gM_8 (kc : Nat → ClassId) (a : Nat → Nat) (σ : US) : (wM kc a σ)[8]? = some (a 8, .inl (kc 1, 8, .inr (.inl (aB σ 1)))) := rfl
theorem sM_8 (kc : Nat → ClassId) (a : Nat → Nat) (σ : US) (f : Nat → Int64) : (wM kc a σ).set 8 (a 8, .inl (kc 1, 8, .inr (.inl f))) = (wM kc a (sB σ 1 f)) := rfl
theorem gM_9 (kc : Nat → ClassId) (a : Nat → Nat) (σ : US) : (wM kc a σ)[9]? = some (a 9, .inl (kc 1, 8, .inr (.inl (aB σ 2)))) := rfl
theorem sM_9 (kc : Nat → ClassId) (a : Nat → Nat) (σ : US) (f : Nat → Int64) : (wM kc a σ).set 9 (a 9, .inl (kc 1, 8, .inr (.inl f))) = (wM kc a (sB σ 2 f)) := rfl
theorem gM_10 (kc : Nat → ClassId) (a : Nat → Nat) (σ : US) : (wM kc a σ)[10]? = some (a 10, .inl (kc 1, 8, .inr (.inl (aB σ 3)))) := rfl
theorem sM_10 (kc : Nat → ClassId) (a : Nat → Nat) (σ : US) (f : Nat → Int64) : (wM kc a σ).set 10 (a 10, .inl (kc 1, 8, .inr (.inl f))) = (wM kc a (sB σ 3 f)) := rfl
theorem gM_11 (kc : Nat → ClassId) (a : Nat → Nat) (σ : US) : (wM kc a σ)[11]? = some (a 11, .inl (kc 0, 300, .inl (aA σ 6))) := rfl
theorem sM_11 (kc : Nat → ClassId) (a : Nat → Nat) (σ : US) (f : Nat → Int32) : (wM kc a σ).set 11 (a 11, .inl (kc 0, 300, .inl f)) = (wM kc a (sA σ 6 f)) := rfl
theorem gM_12 (kc : Nat → ClassId) (a : Nat → Nat) (σ : US) : (wM kc a σ)[12]? = some (a 12, .inl (kc 0, 300, .inl (aA σ 7))) := rfl
theorem sM_12 (kc : Nat → ClassId) (a : Nat → Nat) (σ : US) (f : Nat → Int32) : (wM kc a σ).set 12 (a 12, .inl (kc 0, 300, .inl f)) = (wM kc a (sA σ 7 f)) := rfl
theorem gM_13 (kc : Nat → ClassId) (a : Nat → Nat) (σ : US) : (wM kc a σ)[13]? = some (a 13, .inl (kc 0, 300, .inl (aA σ 8))) := rfl
theorem sM_13 (kc : Nat → ClassId) (a : Nat → Nat) (σ : US) (f : Nat → Int32) : (wM kc a σ).set 13 (a 13, .inl (kc 0, 300, .inl f)) = (wM kc a (sA σ 8 f)) := rfl
theorem gM_14 (kc : Nat → ClassId) (a : Nat → Nat) (σ : US) : (wM kc a σ)[14]? = some (a 14, .inl (kc 0, 300, .inl (aA σ 9))) := rfl
theorem sM_14 (kc : Nat → ClassId) (a : Nat → Nat) (σ : US) (f : Nat → Int32) : (wM kc a σ).set 14 (a 14, .inl (kc 0, 300, .inl f)) = (wM kc a (sA σ 9 f)) := rfl
theorem gM_15 (kc : Nat → ClassId) (a : Nat → Nat) (σ : US) : (wM kc a σ)[15]? = some (a 15, .inl (kc 0, 300, .inl (aA σ 10))) := rfl
theorem sM_15 (kc : Nat → ClassId) (a : Nat → Nat) (σ : US) (f : Nat → Int32) : (wM kc a σ).set 15 (a 15, .inl (kc 0, 300, .inl f)) = (wM kc a (sA σ 10 f)) := rfl
theorem gM_16 (kc : Nat → ClassId) (a : Nat → Nat) (σ : US) : (wM kc a σ)[16]? = some (a 16, .inl (kc 0, 300, .inl (aA σ 11))) := rfl
theorem sM_16 (kc : Nat → ClassId) (a : Nat → Nat) (σ : US) (f : Nat → Int32) : (wM kc a σ).set 16 (a 16, .inl (kc 0, 300, .inl f)) = (wM kc a (sA σ 11 f)) := rfl
theorem gM_17 (kc : Nat → ClassId) (a : Nat → Nat) (σ : US) : (wM kc a σ)[17]? = some (a 17, .inl (kc 0, 300, .inl (aA σ 12))) := rfl
theorem sM_17 (kc : Nat → ClassId) (a : Nat → Nat) (σ : US) (f : Nat → Int32) : (wM kc a σ).set 17 (a 17, .inl (kc 0, 300, .inl f)) = (wM kc a (sA σ 12 f)) := rfl
theorem gM_18 (kc : Nat → ClassId) (a : Nat → Nat) (σ : US) : (wM kc a σ)[18]? = some (a 18, .inl (kc 0, 6, .inl (aA σ 13))) := rfl
theorem sM_18 (kc : Nat → ClassId) (a : Nat → Nat) (σ : US) (f : Nat → Int32) : (wM kc a σ).set 18 (a 18, .inl (kc 0, 6, .inl f)) = (wM kc a (sA σ 13 f)) := rfl
theorem gM_19 (kc : Nat → ClassId) (a : Nat → Nat) (σ : US) : (wM kc a σ)[19]? = some (a 19, .inl (kc 0, 7, .inl (aA σ 14))) := rfl
theorem sM_19 (kc : Nat → ClassId) (a : Nat → Nat) (σ : US) (f : Nat → Int32) : (wM kc a σ).set 19 (a 19, .inl (kc 0, 7, .inl f)) = (wM kc a (sA σ 14 f)) := rfl
theorem gM_20 (kc : Nat → ClassId) (a : Nat → Nat) (σ : US) : (wM kc a σ)[20]? = some (a 20, .inl (kc 0, 300, .inl (aA σ 15))) := rfl
theorem sM_20 (kc : Nat → ClassId) (a : Nat → Nat) (σ : US) (f : Nat → Int32) : (wM kc a σ).set 20 (a 20, .inl (kc 0, 300, .inl f)) = (wM kc a (sA σ 15 f)) := rfl
theorem gM_21 (kc : Nat → ClassId) (a : Nat → Nat) (σ : US) : (wM kc a σ)[21]? = some (a 21, .inl (kc 0, 6, .inl (aA σ 16))) := rfl
theorem sM_21 (kc : Nat → ClassId) (a : Nat → Nat) (σ : US) (f : Nat → Int32) : (wM kc a σ).set 21 (a 21, .inl (kc 0, 6, .inl f)) = (wM kc a (sA σ 16 f)) := rfl
theorem gM_22 (kc : Nat → ClassId) (a : Nat → Nat) (σ : US) : (wM kc a σ)[22]? = some (a 22, .inl (kc 0, 50, .inl (aA σ 17))) := rfl
theorem sM_22 (kc : Nat → ClassId) (a : Nat → Nat) (σ : US) (f : Nat → Int32) : (wM kc a σ).set 22 (a 22, .inl (kc 0, 50, .inl f)) = (wM kc a (sA σ 17 f)) := rfl
theorem gM_23 (kc : Nat → ClassId) (a : Nat → Nat) (σ : US) : (wM kc a σ)[23]? = some (a 23, .inl (kc 1, 8, .inr (.inl (aB σ 4)))) := rfl
theorem sM_23 (kc : Nat → ClassId) (a : Nat → Nat) (σ : US) (f : Nat → Int64) : (wM kc a σ).set 23 (a 23, .inl (kc 1, 8, .inr (.inl f))) = (wM kc a (sB σ 4 f)) := rfl
theorem gM_24 (kc : Nat → ClassId) (a : Nat → Nat) (σ : US) : (wM kc a σ)[24]? = some (a 24, .inl (kc 1, 8, .inr (.inl (aB σ 5)))) := rfl
theorem sM_24 (kc : Nat → ClassId) (a : Nat → Nat) (σ : US) (f : Nat → Int64) : (wM kc a σ).set 24 (a 24, .inl (kc 1, 8, .inr (.inl f))) = (wM kc a (sB σ 5 f)) := rfl
theorem gM_25 (kc : Nat → ClassId) (a : Nat → Nat) (σ : US) : (wM kc a σ)[25]? = some (a 25, .inl (kc 0, 8, .inl (aA σ 18))) := rfl
theorem sM_25 (kc : Nat → ClassId) (a : Nat → Nat) (σ : US) (f : Nat → Int32) : (wM kc a σ).set 25 (a 25, .inl (kc 0, 8, .inl f)) = (wM kc a (sA σ 18 f)) := rfl
theorem pM_0_2 (kc : Nat → ClassId) (a : Nat → Nat) (σ : US) (x : Int32) : (wM kc a σ).set 0 (a 0, .inr (14, (oM a σ).set 2 (.int x))) = (wM kc a (uI σ 0 x)) := rfl
theorem pM_0_4 (kc : Nat → ClassId) (a : Nat → Nat) (σ : US) (x : Int32) : (wM kc a σ).set 0 (a 0, .inr (14, (oM a σ).set 4 (.int x))) = (wM kc a (uI σ 1 x)) := rfl
theorem pM_0_7 (kc : Nat → ClassId) (a : Nat → Nat) (σ : US) (x : Int64) : (wM kc a σ).set 0 (a 0, .inr (14, (oM a σ).set 7 (.long x))) = (wM kc a (uJ σ 0 x)) := rfl
theorem pM_0_8 (kc : Nat → ClassId) (a : Nat → Nat) (σ : US) (x : Int64) : (wM kc a σ).set 0 (a 0, .inr (14, (oM a σ).set 8 (.long x))) = (wM kc a (uJ σ 1 x)) := rfl
theorem pM_0_10 (kc : Nat → ClassId) (a : Nat → Nat) (σ : US) (x : Int32) : (wM kc a σ).set 0 (a 0, .inr (14, (oM a σ).set 10 (.int x))) = (wM kc a (uI σ 2 x)) := rfl
theorem pM_0_11 (kc : Nat → ClassId) (a : Nat → Nat) (σ : US) (x : Int64) : (wM kc a σ).set 0 (a 0, .inr (14, (oM a σ).set 11 (.long x))) = (wM kc a (uJ σ 2 x)) := rfl
theorem pM_0_16 (kc : Nat → ClassId) (a : Nat → Nat) (σ : US) (x : Int32) : (wM kc a σ).set 0 (a 0, .inr (14, (oM a σ).set 16 (.int x))) = (wM kc a (uI σ 3 x)) := rfl
theorem pM_0_24 (kc : Nat → ClassId) (a : Nat → Nat) (σ : US) (x : Int32) : (wM kc a σ).set 0 (a 0, .inr (14, (oM a σ).set 24 (.int x))) = (wM kc a (uI σ 4 x)) := rfl
theorem pM_0_30 (kc : Nat → ClassId) (a : Nat → Nat) (σ : US) (x : Int32) : (wM kc a σ).set 0 (a 0, .inr (14, (oM a σ).set 30 (.int x))) = (wM kc a (uI σ 5 x)) := rfl
theorem pM_0_31 (kc : Nat → ClassId) (a : Nat → Nat) (σ : US) (x : Int32) : (wM kc a σ).set 0 (a 0, .inr (14, (oM a σ).set 31 (.int x))) = (wM kc a (uI σ 6 x)) := rfl
theorem pM_0_32 (kc : Nat → ClassId) (a : Nat → Nat) (σ : US) (x : Int32) : (wM kc a σ).set 0 (a 0, .inr (14, (oM a σ).set 32 (.int x))) = (wM kc a (uI σ 7 x)) := rfl
theorem pM_0_33 (kc : Nat → ClassId) (a : Nat → Nat) (σ : US) (x : Int32) : (wM kc a σ).set 0 (a 0, .inr (14, (oM a σ).set 33 (.int x))) = (wM kc a (uI σ 8 x)) := rfl
theorem pM_0_34 (kc : Nat → ClassId) (a : Nat → Nat) (σ : US) (x : Int32) : (wM kc a σ).set 0 (a 0, .inr (14, (oM a σ).set 34 (.int x))) = (wM kc a (uI σ 9 x)) := rfl
theorem pM_0_35 (kc : Nat → ClassId) (a : Nat → Nat) (σ : US) (x : Int32) : (wM kc a σ).set 0 (a 0, .inr (14, (oM a σ).set 35 (.int x))) = (wM kc a (uI σ 10 x)) := rfl
theorem pM_0_36 (kc : Nat → ClassId) (a : Nat → Nat) (σ : US) (x : Int32) : (wM kc a σ).set 0 (a 0, .inr (14, (oM a σ).set 36 (.int x))) = (wM kc a (uI σ 11 x)) := rfl
def xCC (kc : Nat → ClassId) (ac : Nat → Nat) (ad : Nat → Nat) (κ : US) (ρ : US) : va_W := wC kc ac κ ++ (wC kc ad ρ)
theorem gCC_0 (kc : Nat → ClassId) (ac : Nat → Nat) (ad : Nat → Nat) (κ : US) (ρ : US) : (xCC kc ac ad κ ρ)[0]? = some (ac 0, .inr (4, oC ac κ)) := rfl
theorem gCC_1 (kc : Nat → ClassId) (ac : Nat → Nat) (ad : Nat → Nat) (κ : US) (ρ : US) : (xCC kc ac ad κ ρ)[1]? = some (ac 1, .inl (kc 0, 64, .inl (aA κ 0))) := rfl
theorem sCC_1 (kc : Nat → ClassId) (ac : Nat → Nat) (ad : Nat → Nat) (κ : US) (ρ : US) (f : Nat → Int32) : (xCC kc ac ad κ ρ).set 1 (ac 1, .inl (kc 0, 64, .inl f)) = (xCC kc ac ad (sA κ 0 f) ρ) := rfl
theorem gCC_2 (kc : Nat → ClassId) (ac : Nat → Nat) (ad : Nat → Nat) (κ : US) (ρ : US) : (xCC kc ac ad κ ρ)[2]? = some (ac 2, .inl (kc 0, 8, .inl (aA κ 1))) := rfl
theorem sCC_2 (kc : Nat → ClassId) (ac : Nat → Nat) (ad : Nat → Nat) (κ : US) (ρ : US) (f : Nat → Int32) : (xCC kc ac ad κ ρ).set 2 (ac 2, .inl (kc 0, 8, .inl f)) = (xCC kc ac ad (sA κ 1 f) ρ) := rfl
theorem gCC_3 (kc : Nat → ClassId) (ac : Nat → Nat) (ad : Nat → Nat) (κ : US) (ρ : US) : (xCC kc ac ad κ ρ)[3]? = some (ac 3, .inl (kc 0, 8, .inl (aA κ 2))) := rfl
theorem sCC_3 (kc : Nat → ClassId) (ac : Nat → Nat) (ad : Nat → Nat) (κ : US) (ρ : US) (f : Nat → Int32) : (xCC kc ac ad κ ρ).set 3 (ac 3, .inl (kc 0, 8, .inl f)) = (xCC kc ac ad (sA κ 2 f) ρ) := rfl
theorem pCC_0_3 (kc : Nat → ClassId) (ac : Nat → Nat) (ad : Nat → Nat) (κ : US) (ρ : US) (x : Int32) : (xCC kc ac ad κ ρ).set 0 (ac 0, .inr (4, (oC ac κ).set 3 (.int x))) = (xCC kc ac ad (uI κ 0 x) ρ) := rfl
theorem xCC_0 (kc : Nat → ClassId) (ac : Nat → Nat) (ad : Nat → Nat) (κ : US) (ρ : US) : (xCC kc ac ad κ ρ) = ([] : va_W) ++ ((wC kc ac κ) ++ ((wC kc ad ρ) : va_W)) := rfl
theorem gCC_4 (kc : Nat → ClassId) (ac : Nat → Nat) (ad : Nat → Nat) (κ : US) (ρ : US) : (xCC kc ac ad κ ρ)[4]? = some (ad 0, .inr (4, oC ad ρ)) := rfl
theorem gCC_5 (kc : Nat → ClassId) (ac : Nat → Nat) (ad : Nat → Nat) (κ : US) (ρ : US) : (xCC kc ac ad κ ρ)[5]? = some (ad 1, .inl (kc 0, 64, .inl (aA ρ 0))) := rfl
theorem sCC_5 (kc : Nat → ClassId) (ac : Nat → Nat) (ad : Nat → Nat) (κ : US) (ρ : US) (f : Nat → Int32) : (xCC kc ac ad κ ρ).set 5 (ad 1, .inl (kc 0, 64, .inl f)) = (xCC kc ac ad κ (sA ρ 0 f)) := rfl
theorem gCC_6 (kc : Nat → ClassId) (ac : Nat → Nat) (ad : Nat → Nat) (κ : US) (ρ : US) : (xCC kc ac ad κ ρ)[6]? = some (ad 2, .inl (kc 0, 8, .inl (aA ρ 1))) := rfl
theorem sCC_6 (kc : Nat → ClassId) (ac : Nat → Nat) (ad : Nat → Nat) (κ : US) (ρ : US) (f : Nat → Int32) : (xCC kc ac ad κ ρ).set 6 (ad 2, .inl (kc 0, 8, .inl f)) = (xCC kc ac ad κ (sA ρ 1 f)) := rfl
theorem gCC_7 (kc : Nat → ClassId) (ac : Nat → Nat) (ad : Nat → Nat) (κ : US) (ρ : US) : (xCC kc ac ad κ ρ)[7]? = some (ad 3, .inl (kc 0, 8, .inl (aA ρ 2))) := rfl
theorem sCC_7 (kc : Nat → ClassId) (ac : Nat → Nat) (ad : Nat → Nat) (κ : US) (ρ : US) (f : Nat → Int32) : (xCC kc ac ad κ ρ).set 7 (ad 3, .inl (kc 0, 8, .inl f)) = (xCC kc ac ad κ (sA ρ 2 f)) := rfl
theorem pCC_4_3 (kc : Nat → ClassId) (ac : Nat → Nat) (ad : Nat → Nat) (κ : US) (ρ : US) (x : Int32) : (xCC kc ac ad κ ρ).set 4 (ad 0, .inr (4, (oC ad ρ).set 3 (.int x))) = (xCC kc ac ad κ (uI ρ 0 x)) := rfl
theorem xCC_1 (kc : Nat → ClassId) (ac : Nat → Nat) (ad : Nat → Nat) (κ : US) (ρ : US) : (xCC kc ac ad κ ρ) = ((wC kc ac κ) : va_W) ++ ((wC kc ad ρ) ++ ([] : va_W)) := rfl
theorem gBd_0 (kc : Nat → ClassId) (ax : Nat → Nat) (β : US) : (wBd kc ax β)[0]? = some (ax 0, .inr (3, oBd ax β)) := rfl
theorem pBd_0_0 (kc : Nat → ClassId) (ax : Nat → Nat) (β : US) (x : Int32) : (wBd kc ax β).set 0 (ax 0, .inr (3, (oBd ax β).set 0 (.int x))) = (wBd kc ax (uI β 0 x)) := rfl
theorem pBd_0_1 (kc : Nat → ClassId) (ax : Nat → Nat) (β : US) (x : Int32) : (wBd kc ax β).set 0 (ax 0, .inr (3, (oBd ax β).set 1 (.int x))) = (wBd kc ax (uI β 1 x)) := rfl
theorem pBd_0_2 (kc : Nat → ClassId) (ax : Nat → Nat) (β : US) (x : Int32) : (wBd kc ax β).set 0 (ax 0, .inr (3, (oBd ax β).set 2 (.int x))) = (wBd kc ax (uI β 2 x)) := rfl
theorem pBd_0_3 (kc : Nat → ClassId) (ax : Nat → Nat) (β : US) (x : Int32) : (wBd kc ax β).set 0 (ax 0, .inr (3, (oBd ax β).set 3 (.int x))) = (wBd kc ax (uI β 3 x)) := rfl
def xMoB (kc : Nat → ClassId) (am : Nat → Nat) (ae : Nat → Nat) (ac : Nat → Nat) (ax : Nat → Nat) (σ : US) (ε : US) (κ : US) (β : US) : va_W := wMo kc am ac ae σ ++ (wE kc ae ε ++ (wC kc ac κ ++ (wBd kc ax β)))
theorem gMoB_0 (kc : Nat → ClassId) (am : Nat → Nat) (ae : Nat → Nat) (ac : Nat → Nat) (ax : Nat → Nat) (σ : US) (ε : US) (κ : US) (β : US) : (xMoB kc am ae ac ax σ ε κ β)[0]? = some (am 0, .inr (10, oMo am ac ae σ)) := rfl
theorem gMoB_1 (kc : Nat → ClassId) (am : Nat → Nat) (ae : Nat → Nat) (ac : Nat → Nat) (ax : Nat → Nat) (σ : US) (ε : US) (κ : US) (β : US) : (xMoB kc am ae ac ax σ ε κ β)[1]? = some (am 1, .inl (kc 1, 8, .inr (.inl (aB σ 0)))) := rfl
theorem sMoB_1 (kc : Nat → ClassId) (am : Nat → Nat) (ae : Nat → Nat) (ac : Nat → Nat) (ax : Nat → Nat) (σ : US) (ε : US) (κ : US) (β : US) (f : Nat → Int64) : (xMoB kc am ae ac ax σ ε κ β).set 1 (am 1, .inl (kc 1, 8, .inr (.inl f))) = (xMoB kc am ae ac ax (sB σ 0 f) ε κ β) := rfl
theorem gMoB_2 (kc : Nat → ClassId) (am : Nat → Nat) (ae : Nat → Nat) (ac : Nat → Nat) (ax : Nat → Nat) (σ : US) (ε : US) (κ : US) (β : US) : (xMoB kc am ae ac ax σ ε κ β)[2]? = some (am 2, .inl (kc 1, 8, .inr (.inl (aB σ 1)))) := rfl
theorem sMoB_2 (kc : Nat → ClassId) (am : Nat → Nat) (ae : Nat → Nat) (ac : Nat → Nat) (ax : Nat → Nat) (σ : US) (ε : US) (κ : US) (β : US) (f : Nat → Int64) : (xMoB kc am ae ac ax σ ε κ β).set 2 (am 2, .inl (kc 1, 8, .inr (.inl f))) = (xMoB kc am ae ac ax (sB σ 1 f) ε κ β) := rfl
theorem gMoB_3 (kc : Nat → ClassId) (am : Nat → Nat) (ae : Nat → Nat) (ac : Nat → Nat) (ax : Nat → Nat) (σ : US) (ε : US) (κ : US) (β : US) : (xMoB kc am ae ac ax σ ε κ β)[3]? = some (am 3, .inl (kc 1, 8, .inr (.inl (aB σ 2)))) := rfl
theorem sMoB_3 (kc : Nat → ClassId) (am : Nat → Nat) (ae : Nat → Nat) (ac : Nat → Nat) (ax : Nat → Nat) (σ : US) (ε : US) (κ : US) (β : US) (f : Nat → Int64) : (xMoB kc am ae ac ax σ ε κ β).set 3 (am 3, .inl (kc 1, 8, .inr (.inl f))) = (xMoB kc am ae ac ax (sB σ 2 f) ε κ β) := rfl
theorem gMoB_4 (kc : Nat → ClassId) (am : Nat → Nat) (ae : Nat → Nat) (ac : Nat → Nat) (ax : Nat → Nat) (σ : US) (ε : US) (κ : US) (β : US) : (xMoB kc am ae ac ax σ ε κ β)[4]? = some (am 4, .inl (kc 1, 8, .inr (.inl (aB σ 3)))) := rfl
theorem sMoB_4 (kc : Nat → ClassId) (am : Nat → Nat) (ae : Nat → Nat) (ac : Nat → Nat) (ax : Nat → Nat) (σ : US) (ε : US) (κ : US) (β : US) (f : Nat → Int64) : (xMoB kc am ae ac ax σ ε κ β).set 4 (am 4, .inl (kc 1, 8, .inr (.inl f))) = (xMoB kc am ae ac ax (sB σ 3 f) ε κ β) := rfl
theorem xMoB_0 (kc : Nat → ClassId) (am : Nat → Nat) (ae : Nat → Nat) (ac : Nat → Nat) (ax : Nat → Nat) (σ : US) (ε : US) (κ : US) (β : US) : (xMoB kc am ae ac ax σ ε κ β) = ([] : va_W) ++ ((wMo kc am ac ae σ) ++ ((wE kc ae ε) ++ (wC kc ac κ) ++ (wBd kc ax β) : va_W)) := rfl
theorem gMoB_5 (kc : Nat → ClassId) (am : Nat → Nat) (ae : Nat → Nat) (ac : Nat → Nat) (ax : Nat → Nat) (σ : US) (ε : US) (κ : US) (β : US) : (xMoB kc am ae ac ax σ ε κ β)[5]? = some (ae 0, .inr (5, oE ae ε)) := rfl
theorem gMoB_6 (kc : Nat → ClassId) (am : Nat → Nat) (ae : Nat → Nat) (ac : Nat → Nat) (ax : Nat → Nat) (σ : US) (ε : US) (κ : US) (β : US) : (xMoB kc am ae ac ax σ ε κ β)[6]? = some (ae 1, .inl (kc 1, 72, .inr (.inl (aB ε 0)))) := rfl
theorem sMoB_6 (kc : Nat → ClassId) (am : Nat → Nat) (ae : Nat → Nat) (ac : Nat → Nat) (ax : Nat → Nat) (σ : US) (ε : US) (κ : US) (β : US) (f : Nat → Int64) : (xMoB kc am ae ac ax σ ε κ β).set 6 (ae 1, .inl (kc 1, 72, .inr (.inl f))) = (xMoB kc am ae ac ax σ (sB ε 0 f) κ β) := rfl
theorem xMoB_1 (kc : Nat → ClassId) (am : Nat → Nat) (ae : Nat → Nat) (ac : Nat → Nat) (ax : Nat → Nat) (σ : US) (ε : US) (κ : US) (β : US) : (xMoB kc am ae ac ax σ ε κ β) = ((wMo kc am ac ae σ) : va_W) ++ ((wE kc ae ε) ++ ((wC kc ac κ) ++ (wBd kc ax β) : va_W)) := rfl
theorem gMoB_7 (kc : Nat → ClassId) (am : Nat → Nat) (ae : Nat → Nat) (ac : Nat → Nat) (ax : Nat → Nat) (σ : US) (ε : US) (κ : US) (β : US) : (xMoB kc am ae ac ax σ ε κ β)[7]? = some (ac 0, .inr (4, oC ac κ)) := rfl
theorem gMoB_8 (kc : Nat → ClassId) (am : Nat → Nat) (ae : Nat → Nat) (ac : Nat → Nat) (ax : Nat → Nat) (σ : US) (ε : US) (κ : US) (β : US) : (xMoB kc am ae ac ax σ ε κ β)[8]? = some (ac 1, .inl (kc 0, 64, .inl (aA κ 0))) := rfl
theorem sMoB_8 (kc : Nat → ClassId) (am : Nat → Nat) (ae : Nat → Nat) (ac : Nat → Nat) (ax : Nat → Nat) (σ : US) (ε : US) (κ : US) (β : US) (f : Nat → Int32) : (xMoB kc am ae ac ax σ ε κ β).set 8 (ac 1, .inl (kc 0, 64, .inl f)) = (xMoB kc am ae ac ax σ ε (sA κ 0 f) β) := rfl
theorem gMoB_9 (kc : Nat → ClassId) (am : Nat → Nat) (ae : Nat → Nat) (ac : Nat → Nat) (ax : Nat → Nat) (σ : US) (ε : US) (κ : US) (β : US) : (xMoB kc am ae ac ax σ ε κ β)[9]? = some (ac 2, .inl (kc 0, 8, .inl (aA κ 1))) := rfl
theorem sMoB_9 (kc : Nat → ClassId) (am : Nat → Nat) (ae : Nat → Nat) (ac : Nat → Nat) (ax : Nat → Nat) (σ : US) (ε : US) (κ : US) (β : US) (f : Nat → Int32) : (xMoB kc am ae ac ax σ ε κ β).set 9 (ac 2, .inl (kc 0, 8, .inl f)) = (xMoB kc am ae ac ax σ ε (sA κ 1 f) β) := rfl
theorem gMoB_10 (kc : Nat → ClassId) (am : Nat → Nat) (ae : Nat → Nat) (ac : Nat → Nat) (ax : Nat → Nat) (σ : US) (ε : US) (κ : US) (β : US) : (xMoB kc am ae ac ax σ ε κ β)[10]? = some (ac 3, .inl (kc 0, 8, .inl (aA κ 2))) := rfl
theorem sMoB_10 (kc : Nat → ClassId) (am : Nat → Nat) (ae : Nat → Nat) (ac : Nat → Nat) (ax : Nat → Nat) (σ : US) (ε : US) (κ : US) (β : US) (f : Nat → Int32) : (xMoB kc am ae ac ax σ ε κ β).set 10 (ac 3, .inl (kc 0, 8, .inl f)) = (xMoB kc am ae ac ax σ ε (sA κ 2 f) β) := rfl
theorem pMoB_7_3 (kc : Nat → ClassId) (am : Nat → Nat) (ae : Nat → Nat) (ac : Nat → Nat) (ax : Nat → Nat) (σ : US) (ε : US) (κ : US) (β : US) (x : Int32) : (xMoB kc am ae ac ax σ ε κ β).set 7 (ac 0, .inr (4, (oC ac κ).set 3 (.int x))) = (xMoB kc am ae ac ax σ ε (uI κ 0 x) β) := rfl
theorem xMoB_2 (kc : Nat → ClassId) (am : Nat → Nat) (ae : Nat → Nat) (ac : Nat → Nat) (ax : Nat → Nat) (σ : US) (ε : US) (κ : US) (β : US) : (xMoB kc am ae ac ax σ ε κ β) = ((wMo kc am ac ae σ) ++ (wE kc ae ε) : va_W) ++ ((wC kc ac κ) ++ ((wBd kc ax β) : va_W)) := rfl
theorem gMoB_11 (kc : Nat → ClassId) (am : Nat → Nat) (ae : Nat → Nat) (ac : Nat → Nat) (ax : Nat → Nat) (σ : US) (ε : US) (κ : US) (β : US) : (xMoB kc am ae ac ax σ ε κ β)[11]? = some (ax 0, .inr (3, oBd ax β)) := rfl
theorem pMoB_11_0 (kc : Nat → ClassId) (am : Nat → Nat) (ae : Nat → Nat) (ac : Nat → Nat) (ax : Nat → Nat) (σ : US) (ε : US) (κ : US) (β : US) (x : Int32) : (xMoB kc am ae ac ax σ ε κ β).set 11 (ax 0, .inr (3, (oBd ax β).set 0 (.int x))) = (xMoB kc am ae ac ax σ ε κ (uI β 0 x)) := rfl
theorem pMoB_11_1 (kc : Nat → ClassId) (am : Nat → Nat) (ae : Nat → Nat) (ac : Nat → Nat) (ax : Nat → Nat) (σ : US) (ε : US) (κ : US) (β : US) (x : Int32) : (xMoB kc am ae ac ax σ ε κ β).set 11 (ax 0, .inr (3, (oBd ax β).set 1 (.int x))) = (xMoB kc am ae ac ax σ ε κ (uI β 1 x)) := rfl
theorem pMoB_11_2 (kc : Nat → ClassId) (am : Nat → Nat) (ae : Nat → Nat) (ac : Nat → Nat) (ax : Nat → Nat) (σ : US) (ε : US) (κ : US) (β : US) (x : Int32) : (xMoB kc am ae ac ax σ ε κ β).set 11 (ax 0, .inr (3, (oBd ax β).set 2 (.int x))) = (xMoB kc am ae ac ax σ ε κ (uI β 2 x)) := rfl
theorem pMoB_11_3 (kc : Nat → ClassId) (am : Nat → Nat) (ae : Nat → Nat) (ac : Nat → Nat) (ax : Nat → Nat) (σ : US) (ε : US) (κ : US) (β : US) (x : Int32) : (xMoB kc am ae ac ax σ ε κ β).set 11 (ax 0, .inr (3, (oBd ax β).set 3 (.int x))) = (xMoB kc am ae ac ax σ ε κ (uI β 3 x)) := rfl
theorem xMoB_3 (kc : Nat → ClassId) (am : Nat → Nat) (ae : Nat → Nat) (ac : Nat → Nat) (ax : Nat → Nat) (σ : US) (ε : US) (κ : US) (β : US) : (xMoB kc am ae ac ax σ ε κ β) = ((wMo kc am ac ae σ) ++ (wE kc ae ε) ++ (wC kc ac κ) : va_W) ++ ((wBd kc ax β) ++ ([] : va_W)) := rfl
