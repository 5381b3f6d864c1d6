/-! THE CLASS'S WORLD: thirty cells at the addresses ad 0 .. ad 29, behind them the offers' cells; V: the numbers in fields, M: the arrays by place, en: the entries. -/
def sV (V : Nat → Int32) (k : Nat) (x : Int32) : Nat → Int32 := fun j => bif Nat.beq j k then x else V j
def sM (M : Nat → Nat → Int32) (k : Nat) (f : Nat → Int32) : Nat → Nat → Int32 := fun j => bif Nat.beq j k then f else M j
theorem j_args {As : List Value} {ls : List (Option Value)} (h : jA 0 ls = lv_args 0 As) : ∀ (i : Nat) (v : Value), ls[i]? = some (some v) → (i, v) ∈ lv_args 0 As := by
  intro i v hi
  have h1 := jA_of ls 0 i v hi
  rw [Nat.zero_add] at h1
  rw [← h]
  exact h1
theorem j_inc1 (i : Nat) : nI i + Int32.ofInt 1 = nI (i + 1) := nI_1 i
theorem j_dec1 (i : Nat) : nI (i + 1) + Int32.ofInt (-1) = nI i := pk_m1 i

def wC (G : jG) (ad : Nat → Nat) (V : Nat → Int32) (M : Nat → Nat → Int32) (en : Nat → Option Nat) (wo : va_W) : va_W :=
  [(ad 0, .inr (12, [.ref (ad 1), .ref (ad 5), .ref (ad 11), .ref (ad 22), .ref (ad 25), .int (V 0), .int (V 1)])),
   (ad 1, .inr (2, [.ref (ad 2), .ref (ad 3), .ref (ad 4), .int (V 2), .int (V 3)])),
   (ad 2, .inl (G.2.2 0, 7, .inl (M 2))),
   (ad 3, .inl (G.2.2 0, 7, .inl (M 3))),
   (ad 4, .inl (G.2.2 0, 7, .inl (M 4))),
   (ad 5, .inr (7, [.ref (ad 6), .ref (ad 7), .ref (ad 8), .ref (ad 9), .ref (ad 10), .int (V 4)])),
   (ad 6, .inl (G.2.2 3, 6, .inr (.inr (.inr (.inr en))))),
   (ad 7, .inl (G.2.2 0, 6, .inl (M 7))),
   (ad 8, .inl (G.2.2 0, 6, .inl (M 8))),
   (ad 9, .inl (G.2.2 0, 6, .inl (M 9))),
   (ad 10, .inl (G.2.2 0, 24, .inl (M 10))),
   (ad 11, .inr (9, [.ref (ad 1), .ref (ad 5), .ref (ad 12), .ref (ad 17), .ref (ad 18), .ref (ad 19), .ref (ad 20), .ref (ad 21), .int (V 5), .int (V 6), .int (V 7), .int (V 8)])),
   (ad 12, .inr (11, [.ref (ad 13), .ref (ad 14), .ref (ad 15), .ref (ad 16), .int (V 9)])),
   (ad 13, .inl (G.2.2 0, 210, .inl (M 13))),
   (ad 14, .inl (G.2.2 0, 210, .inl (M 14))),
   (ad 15, .inl (G.2.2 0, 210, .inl (M 15))),
   (ad 16, .inl (G.2.2 0, 8, .inl (M 16))),
   (ad 17, .inl (G.2.2 0, 6, .inl (M 17))),
   (ad 18, .inl (G.2.2 0, 6, .inl (M 18))),
   (ad 19, .inl (G.2.2 0, 7, .inl (M 19))),
   (ad 20, .inl (G.2.2 0, 7, .inl (M 20))),
   (ad 21, .inl (G.2.2 0, 7, .inl (M 21))),
   (ad 22, .inr (3, [.ref (ad 1), .ref (ad 11), .ref (ad 23), .ref (ad 24)])),
   (ad 23, .inl (G.2.2 0, 7, .inl (M 23))),
   (ad 24, .inl (G.2.2 0, 7, .inl (M 24))),
   (ad 25, .inr (6, [.ref (ad 26), .ref (ad 27), .ref (ad 28), .ref (ad 29), .int (V 10), .int (V 11), .int (V 12), .int (V 13), .int (V 14)])),
   (ad 26, .inl (G.2.2 2, 60, .inl (M 26))),
   (ad 27, .inl (G.2.2 2, 60, .inl (M 27))),
   (ad 28, .inl (G.2.2 0, 60, .inl (M 28))),
   (ad 29, .inl (G.2.2 0, 60, .inl (M 29)))] ++ wo
theorem sM_sM (M : Nat → Nat → Int32) (k : Nat) (f g : Nat → Int32) : sM (sM M k f) k g = sM M k g := by
  funext j
  unfold sM
  cases Nat.beq j k <;> rfl
section WC
variable (G : jG) (ad : Nat → Nat) (V : Nat → Int32) (M : Nat → Nat → Int32) (en : Nat → Option Nat) (wo : va_W)
theorem wCg0 : (wC G ad V M en wo)[0]? = some (ad 0, .inr (12, [.ref (ad 1), .ref (ad 5), .ref (ad 11), .ref (ad 22), .ref (ad 25), .int (V 0), .int (V 1)])) := rfl
theorem wCp0_5 (x : Int32) : (wC G ad V M en wo).set 0 (ad 0, .inr (12, [.ref (ad 1), .ref (ad 5), .ref (ad 11), .ref (ad 22), .ref (ad 25), .int x, .int (V 1)])) = wC G ad (sV V 0 x) M en wo := rfl
theorem wCp0_6 (x : Int32) : (wC G ad V M en wo).set 0 (ad 0, .inr (12, [.ref (ad 1), .ref (ad 5), .ref (ad 11), .ref (ad 22), .ref (ad 25), .int (V 0), .int x])) = wC G ad (sV V 1 x) M en wo := rfl
theorem wCg1 : (wC G ad V M en wo)[1]? = some (ad 1, .inr (2, [.ref (ad 2), .ref (ad 3), .ref (ad 4), .int (V 2), .int (V 3)])) := rfl
theorem wCp1_3 (x : Int32) : (wC G ad V M en wo).set 1 (ad 1, .inr (2, [.ref (ad 2), .ref (ad 3), .ref (ad 4), .int x, .int (V 3)])) = wC G ad (sV V 2 x) M en wo := rfl
theorem wCp1_4 (x : Int32) : (wC G ad V M en wo).set 1 (ad 1, .inr (2, [.ref (ad 2), .ref (ad 3), .ref (ad 4), .int (V 2), .int x])) = wC G ad (sV V 3 x) M en wo := rfl
theorem wCg2 : (wC G ad V M en wo)[2]? = some (ad 2, .inl (G.2.2 0, 7, .inl (M 2))) := rfl
theorem wCo2 (f g : Nat → Int32) : (wC G ad V (sM M 2 g) en wo).set 2 (ad 2, .inl (G.2.2 0, 7, .inl f)) = wC G ad V (sM M 2 f) en wo := (show (wC G ad V (sM M 2 g) en wo).set 2 (ad 2, .inl (G.2.2 0, 7, .inl f)) = wC G ad V (sM (sM M 2 g) 2 f) en wo from rfl).trans (by rw [sM_sM])
theorem wCp2 (f : Nat → Int32) : (wC G ad V M en wo).set 2 (ad 2, .inl (G.2.2 0, 7, .inl f)) = wC G ad V (sM M 2 f) en wo := rfl
theorem wCg3 : (wC G ad V M en wo)[3]? = some (ad 3, .inl (G.2.2 0, 7, .inl (M 3))) := rfl
theorem wCo3 (f g : Nat → Int32) : (wC G ad V (sM M 3 g) en wo).set 3 (ad 3, .inl (G.2.2 0, 7, .inl f)) = wC G ad V (sM M 3 f) en wo := (show (wC G ad V (sM M 3 g) en wo).set 3 (ad 3, .inl (G.2.2 0, 7, .inl f)) = wC G ad V (sM (sM M 3 g) 3 f) en wo from rfl).trans (by rw [sM_sM])
theorem wCp3 (f : Nat → Int32) : (wC G ad V M en wo).set 3 (ad 3, .inl (G.2.2 0, 7, .inl f)) = wC G ad V (sM M 3 f) en wo := rfl
theorem wCg4 : (wC G ad V M en wo)[4]? = some (ad 4, .inl (G.2.2 0, 7, .inl (M 4))) := rfl
theorem wCo4 (f g : Nat → Int32) : (wC G ad V (sM M 4 g) en wo).set 4 (ad 4, .inl (G.2.2 0, 7, .inl f)) = wC G ad V (sM M 4 f) en wo := (show (wC G ad V (sM M 4 g) en wo).set 4 (ad 4, .inl (G.2.2 0, 7, .inl f)) = wC G ad V (sM (sM M 4 g) 4 f) en wo from rfl).trans (by rw [sM_sM])
theorem wCp4 (f : Nat → Int32) : (wC G ad V M en wo).set 4 (ad 4, .inl (G.2.2 0, 7, .inl f)) = wC G ad V (sM M 4 f) en wo := rfl
theorem wCg5 : (wC G ad V M en wo)[5]? = some (ad 5, .inr (7, [.ref (ad 6), .ref (ad 7), .ref (ad 8), .ref (ad 9), .ref (ad 10), .int (V 4)])) := rfl
theorem wCp5_5 (x : Int32) : (wC G ad V M en wo).set 5 (ad 5, .inr (7, [.ref (ad 6), .ref (ad 7), .ref (ad 8), .ref (ad 9), .ref (ad 10), .int x])) = wC G ad (sV V 4 x) M en wo := rfl
theorem wCg6 : (wC G ad V M en wo)[6]? = some (ad 6, .inl (G.2.2 3, 6, .inr (.inr (.inr (.inr en))))) := rfl
theorem wCg7 : (wC G ad V M en wo)[7]? = some (ad 7, .inl (G.2.2 0, 6, .inl (M 7))) := rfl
theorem wCo7 (f g : Nat → Int32) : (wC G ad V (sM M 7 g) en wo).set 7 (ad 7, .inl (G.2.2 0, 6, .inl f)) = wC G ad V (sM M 7 f) en wo := (show (wC G ad V (sM M 7 g) en wo).set 7 (ad 7, .inl (G.2.2 0, 6, .inl f)) = wC G ad V (sM (sM M 7 g) 7 f) en wo from rfl).trans (by rw [sM_sM])
theorem wCp7 (f : Nat → Int32) : (wC G ad V M en wo).set 7 (ad 7, .inl (G.2.2 0, 6, .inl f)) = wC G ad V (sM M 7 f) en wo := rfl
theorem wCg8 : (wC G ad V M en wo)[8]? = some (ad 8, .inl (G.2.2 0, 6, .inl (M 8))) := rfl
theorem wCo8 (f g : Nat → Int32) : (wC G ad V (sM M 8 g) en wo).set 8 (ad 8, .inl (G.2.2 0, 6, .inl f)) = wC G ad V (sM M 8 f) en wo := (show (wC G ad V (sM M 8 g) en wo).set 8 (ad 8, .inl (G.2.2 0, 6, .inl f)) = wC G ad V (sM (sM M 8 g) 8 f) en wo from rfl).trans (by rw [sM_sM])
theorem wCp8 (f : Nat → Int32) : (wC G ad V M en wo).set 8 (ad 8, .inl (G.2.2 0, 6, .inl f)) = wC G ad V (sM M 8 f) en wo := rfl
theorem wCg9 : (wC G ad V M en wo)[9]? = some (ad 9, .inl (G.2.2 0, 6, .inl (M 9))) := rfl
theorem wCo9 (f g : Nat → Int32) : (wC G ad V (sM M 9 g) en wo).set 9 (ad 9, .inl (G.2.2 0, 6, .inl f)) = wC G ad V (sM M 9 f) en wo := (show (wC G ad V (sM M 9 g) en wo).set 9 (ad 9, .inl (G.2.2 0, 6, .inl f)) = wC G ad V (sM (sM M 9 g) 9 f) en wo from rfl).trans (by rw [sM_sM])
theorem wCp9 (f : Nat → Int32) : (wC G ad V M en wo).set 9 (ad 9, .inl (G.2.2 0, 6, .inl f)) = wC G ad V (sM M 9 f) en wo := rfl
theorem wCg10 : (wC G ad V M en wo)[10]? = some (ad 10, .inl (G.2.2 0, 24, .inl (M 10))) := rfl
theorem wCo10 (f g : Nat → Int32) : (wC G ad V (sM M 10 g) en wo).set 10 (ad 10, .inl (G.2.2 0, 24, .inl f)) = wC G ad V (sM M 10 f) en wo := (show (wC G ad V (sM M 10 g) en wo).set 10 (ad 10, .inl (G.2.2 0, 24, .inl f)) = wC G ad V (sM (sM M 10 g) 10 f) en wo from rfl).trans (by rw [sM_sM])
theorem wCp10 (f : Nat → Int32) : (wC G ad V M en wo).set 10 (ad 10, .inl (G.2.2 0, 24, .inl f)) = wC G ad V (sM M 10 f) en wo := rfl
theorem wCg11 : (wC G ad V M en wo)[11]? = some (ad 11, .inr (9, [.ref (ad 1), .ref (ad 5), .ref (ad 12), .ref (ad 17), .ref (ad 18), .ref (ad 19), .ref (ad 20), .ref (ad 21), .int (V 5), .int (V 6), .int (V 7), .int (V 8)])) := rfl
theorem wCp11_8 (x : Int32) : (wC G ad V M en wo).set 11 (ad 11, .inr (9, [.ref (ad 1), .ref (ad 5), .ref (ad 12), .ref (ad 17), .ref (ad 18), .ref (ad 19), .ref (ad 20), .ref (ad 21), .int x, .int (V 6), .int (V 7), .int (V 8)])) = wC G ad (sV V 5 x) M en wo := rfl
theorem wCp11_9 (x : Int32) : (wC G ad V M en wo).set 11 (ad 11, .inr (9, [.ref (ad 1), .ref (ad 5), .ref (ad 12), .ref (ad 17), .ref (ad 18), .ref (ad 19), .ref (ad 20), .ref (ad 21), .int (V 5), .int x, .int (V 7), .int (V 8)])) = wC G ad (sV V 6 x) M en wo := rfl
theorem wCp11_10 (x : Int32) : (wC G ad V M en wo).set 11 (ad 11, .inr (9, [.ref (ad 1), .ref (ad 5), .ref (ad 12), .ref (ad 17), .ref (ad 18), .ref (ad 19), .ref (ad 20), .ref (ad 21), .int (V 5), .int (V 6), .int x, .int (V 8)])) = wC G ad (sV V 7 x) M en wo := rfl
theorem wCp11_11 (x : Int32) : (wC G ad V M en wo).set 11 (ad 11, .inr (9, [.ref (ad 1), .ref (ad 5), .ref (ad 12), .ref (ad 17), .ref (ad 18), .ref (ad 19), .ref (ad 20), .ref (ad 21), .int (V 5), .int (V 6), .int (V 7), .int x])) = wC G ad (sV V 8 x) M en wo := rfl
theorem wCg12 : (wC G ad V M en wo)[12]? = some (ad 12, .inr (11, [.ref (ad 13), .ref (ad 14), .ref (ad 15), .ref (ad 16), .int (V 9)])) := rfl
theorem wCp12_4 (x : Int32) : (wC G ad V M en wo).set 12 (ad 12, .inr (11, [.ref (ad 13), .ref (ad 14), .ref (ad 15), .ref (ad 16), .int x])) = wC G ad (sV V 9 x) M en wo := rfl
theorem wCg13 : (wC G ad V M en wo)[13]? = some (ad 13, .inl (G.2.2 0, 210, .inl (M 13))) := rfl
theorem wCo13 (f g : Nat → Int32) : (wC G ad V (sM M 13 g) en wo).set 13 (ad 13, .inl (G.2.2 0, 210, .inl f)) = wC G ad V (sM M 13 f) en wo := (show (wC G ad V (sM M 13 g) en wo).set 13 (ad 13, .inl (G.2.2 0, 210, .inl f)) = wC G ad V (sM (sM M 13 g) 13 f) en wo from rfl).trans (by rw [sM_sM])
theorem wCp13 (f : Nat → Int32) : (wC G ad V M en wo).set 13 (ad 13, .inl (G.2.2 0, 210, .inl f)) = wC G ad V (sM M 13 f) en wo := rfl
theorem wCg14 : (wC G ad V M en wo)[14]? = some (ad 14, .inl (G.2.2 0, 210, .inl (M 14))) := rfl
theorem wCo14 (f g : Nat → Int32) : (wC G ad V (sM M 14 g) en wo).set 14 (ad 14, .inl (G.2.2 0, 210, .inl f)) = wC G ad V (sM M 14 f) en wo := (show (wC G ad V (sM M 14 g) en wo).set 14 (ad 14, .inl (G.2.2 0, 210, .inl f)) = wC G ad V (sM (sM M 14 g) 14 f) en wo from rfl).trans (by rw [sM_sM])
theorem wCp14 (f : Nat → Int32) : (wC G ad V M en wo).set 14 (ad 14, .inl (G.2.2 0, 210, .inl f)) = wC G ad V (sM M 14 f) en wo := rfl
theorem wCg15 : (wC G ad V M en wo)[15]? = some (ad 15, .inl (G.2.2 0, 210, .inl (M 15))) := rfl
theorem wCo15 (f g : Nat → Int32) : (wC G ad V (sM M 15 g) en wo).set 15 (ad 15, .inl (G.2.2 0, 210, .inl f)) = wC G ad V (sM M 15 f) en wo := (show (wC G ad V (sM M 15 g) en wo).set 15 (ad 15, .inl (G.2.2 0, 210, .inl f)) = wC G ad V (sM (sM M 15 g) 15 f) en wo from rfl).trans (by rw [sM_sM])
theorem wCp15 (f : Nat → Int32) : (wC G ad V M en wo).set 15 (ad 15, .inl (G.2.2 0, 210, .inl f)) = wC G ad V (sM M 15 f) en wo := rfl
theorem wCg16 : (wC G ad V M en wo)[16]? = some (ad 16, .inl (G.2.2 0, 8, .inl (M 16))) := rfl
theorem wCo16 (f g : Nat → Int32) : (wC G ad V (sM M 16 g) en wo).set 16 (ad 16, .inl (G.2.2 0, 8, .inl f)) = wC G ad V (sM M 16 f) en wo := (show (wC G ad V (sM M 16 g) en wo).set 16 (ad 16, .inl (G.2.2 0, 8, .inl f)) = wC G ad V (sM (sM M 16 g) 16 f) en wo from rfl).trans (by rw [sM_sM])
theorem wCp16 (f : Nat → Int32) : (wC G ad V M en wo).set 16 (ad 16, .inl (G.2.2 0, 8, .inl f)) = wC G ad V (sM M 16 f) en wo := rfl
theorem wCg17 : (wC G ad V M en wo)[17]? = some (ad 17, .inl (G.2.2 0, 6, .inl (M 17))) := rfl
theorem wCo17 (f g : Nat → Int32) : (wC G ad V (sM M 17 g) en wo).set 17 (ad 17, .inl (G.2.2 0, 6, .inl f)) = wC G ad V (sM M 17 f) en wo := (show (wC G ad V (sM M 17 g) en wo).set 17 (ad 17, .inl (G.2.2 0, 6, .inl f)) = wC G ad V (sM (sM M 17 g) 17 f) en wo from rfl).trans (by rw [sM_sM])
theorem wCp17 (f : Nat → Int32) : (wC G ad V M en wo).set 17 (ad 17, .inl (G.2.2 0, 6, .inl f)) = wC G ad V (sM M 17 f) en wo := rfl
theorem wCg18 : (wC G ad V M en wo)[18]? = some (ad 18, .inl (G.2.2 0, 6, .inl (M 18))) := rfl
theorem wCo18 (f g : Nat → Int32) : (wC G ad V (sM M 18 g) en wo).set 18 (ad 18, .inl (G.2.2 0, 6, .inl f)) = wC G ad V (sM M 18 f) en wo := (show (wC G ad V (sM M 18 g) en wo).set 18 (ad 18, .inl (G.2.2 0, 6, .inl f)) = wC G ad V (sM (sM M 18 g) 18 f) en wo from rfl).trans (by rw [sM_sM])
theorem wCp18 (f : Nat → Int32) : (wC G ad V M en wo).set 18 (ad 18, .inl (G.2.2 0, 6, .inl f)) = wC G ad V (sM M 18 f) en wo := rfl
theorem wCg19 : (wC G ad V M en wo)[19]? = some (ad 19, .inl (G.2.2 0, 7, .inl (M 19))) := rfl
theorem wCo19 (f g : Nat → Int32) : (wC G ad V (sM M 19 g) en wo).set 19 (ad 19, .inl (G.2.2 0, 7, .inl f)) = wC G ad V (sM M 19 f) en wo := (show (wC G ad V (sM M 19 g) en wo).set 19 (ad 19, .inl (G.2.2 0, 7, .inl f)) = wC G ad V (sM (sM M 19 g) 19 f) en wo from rfl).trans (by rw [sM_sM])
theorem wCp19 (f : Nat → Int32) : (wC G ad V M en wo).set 19 (ad 19, .inl (G.2.2 0, 7, .inl f)) = wC G ad V (sM M 19 f) en wo := rfl
theorem wCg20 : (wC G ad V M en wo)[20]? = some (ad 20, .inl (G.2.2 0, 7, .inl (M 20))) := rfl
theorem wCo20 (f g : Nat → Int32) : (wC G ad V (sM M 20 g) en wo).set 20 (ad 20, .inl (G.2.2 0, 7, .inl f)) = wC G ad V (sM M 20 f) en wo := (show (wC G ad V (sM M 20 g) en wo).set 20 (ad 20, .inl (G.2.2 0, 7, .inl f)) = wC G ad V (sM (sM M 20 g) 20 f) en wo from rfl).trans (by rw [sM_sM])
theorem wCp20 (f : Nat → Int32) : (wC G ad V M en wo).set 20 (ad 20, .inl (G.2.2 0, 7, .inl f)) = wC G ad V (sM M 20 f) en wo := rfl
theorem wCg21 : (wC G ad V M en wo)[21]? = some (ad 21, .inl (G.2.2 0, 7, .inl (M 21))) := rfl
theorem wCo21 (f g : Nat → Int32) : (wC G ad V (sM M 21 g) en wo).set 21 (ad 21, .inl (G.2.2 0, 7, .inl f)) = wC G ad V (sM M 21 f) en wo := (show (wC G ad V (sM M 21 g) en wo).set 21 (ad 21, .inl (G.2.2 0, 7, .inl f)) = wC G ad V (sM (sM M 21 g) 21 f) en wo from rfl).trans (by rw [sM_sM])
theorem wCp21 (f : Nat → Int32) : (wC G ad V M en wo).set 21 (ad 21, .inl (G.2.2 0, 7, .inl f)) = wC G ad V (sM M 21 f) en wo := rfl
theorem wCg22 : (wC G ad V M en wo)[22]? = some (ad 22, .inr (3, [.ref (ad 1), .ref (ad 11), .ref (ad 23), .ref (ad 24)])) := rfl
theorem wCg23 : (wC G ad V M en wo)[23]? = some (ad 23, .inl (G.2.2 0, 7, .inl (M 23))) := rfl
theorem wCo23 (f g : Nat → Int32) : (wC G ad V (sM M 23 g) en wo).set 23 (ad 23, .inl (G.2.2 0, 7, .inl f)) = wC G ad V (sM M 23 f) en wo := (show (wC G ad V (sM M 23 g) en wo).set 23 (ad 23, .inl (G.2.2 0, 7, .inl f)) = wC G ad V (sM (sM M 23 g) 23 f) en wo from rfl).trans (by rw [sM_sM])
theorem wCp23 (f : Nat → Int32) : (wC G ad V M en wo).set 23 (ad 23, .inl (G.2.2 0, 7, .inl f)) = wC G ad V (sM M 23 f) en wo := rfl
theorem wCg24 : (wC G ad V M en wo)[24]? = some (ad 24, .inl (G.2.2 0, 7, .inl (M 24))) := rfl
theorem wCo24 (f g : Nat → Int32) : (wC G ad V (sM M 24 g) en wo).set 24 (ad 24, .inl (G.2.2 0, 7, .inl f)) = wC G ad V (sM M 24 f) en wo := (show (wC G ad V (sM M 24 g) en wo).set 24 (ad 24, .inl (G.2.2 0, 7, .inl f)) = wC G ad V (sM (sM M 24 g) 24 f) en wo from rfl).trans (by rw [sM_sM])
theorem wCp24 (f : Nat → Int32) : (wC G ad V M en wo).set 24 (ad 24, .inl (G.2.2 0, 7, .inl f)) = wC G ad V (sM M 24 f) en wo := rfl
theorem wCg25 : (wC G ad V M en wo)[25]? = some (ad 25, .inr (6, [.ref (ad 26), .ref (ad 27), .ref (ad 28), .ref (ad 29), .int (V 10), .int (V 11), .int (V 12), .int (V 13), .int (V 14)])) := rfl
theorem wCp25_4 (x : Int32) : (wC G ad V M en wo).set 25 (ad 25, .inr (6, [.ref (ad 26), .ref (ad 27), .ref (ad 28), .ref (ad 29), .int x, .int (V 11), .int (V 12), .int (V 13), .int (V 14)])) = wC G ad (sV V 10 x) M en wo := rfl
theorem wCp25_5 (x : Int32) : (wC G ad V M en wo).set 25 (ad 25, .inr (6, [.ref (ad 26), .ref (ad 27), .ref (ad 28), .ref (ad 29), .int (V 10), .int x, .int (V 12), .int (V 13), .int (V 14)])) = wC G ad (sV V 11 x) M en wo := rfl
theorem wCp25_6 (x : Int32) : (wC G ad V M en wo).set 25 (ad 25, .inr (6, [.ref (ad 26), .ref (ad 27), .ref (ad 28), .ref (ad 29), .int (V 10), .int (V 11), .int x, .int (V 13), .int (V 14)])) = wC G ad (sV V 12 x) M en wo := rfl
theorem wCp25_7 (x : Int32) : (wC G ad V M en wo).set 25 (ad 25, .inr (6, [.ref (ad 26), .ref (ad 27), .ref (ad 28), .ref (ad 29), .int (V 10), .int (V 11), .int (V 12), .int x, .int (V 14)])) = wC G ad (sV V 13 x) M en wo := rfl
theorem wCp25_8 (x : Int32) : (wC G ad V M en wo).set 25 (ad 25, .inr (6, [.ref (ad 26), .ref (ad 27), .ref (ad 28), .ref (ad 29), .int (V 10), .int (V 11), .int (V 12), .int (V 13), .int x])) = wC G ad (sV V 14 x) M en wo := rfl
theorem wCg26 : (wC G ad V M en wo)[26]? = some (ad 26, .inl (G.2.2 2, 60, .inl (M 26))) := rfl
theorem wCo26 (f g : Nat → Int32) : (wC G ad V (sM M 26 g) en wo).set 26 (ad 26, .inl (G.2.2 2, 60, .inl f)) = wC G ad V (sM M 26 f) en wo := (show (wC G ad V (sM M 26 g) en wo).set 26 (ad 26, .inl (G.2.2 2, 60, .inl f)) = wC G ad V (sM (sM M 26 g) 26 f) en wo from rfl).trans (by rw [sM_sM])
theorem wCp26 (f : Nat → Int32) : (wC G ad V M en wo).set 26 (ad 26, .inl (G.2.2 2, 60, .inl f)) = wC G ad V (sM M 26 f) en wo := rfl
theorem wCg27 : (wC G ad V M en wo)[27]? = some (ad 27, .inl (G.2.2 2, 60, .inl (M 27))) := rfl
theorem wCo27 (f g : Nat → Int32) : (wC G ad V (sM M 27 g) en wo).set 27 (ad 27, .inl (G.2.2 2, 60, .inl f)) = wC G ad V (sM M 27 f) en wo := (show (wC G ad V (sM M 27 g) en wo).set 27 (ad 27, .inl (G.2.2 2, 60, .inl f)) = wC G ad V (sM (sM M 27 g) 27 f) en wo from rfl).trans (by rw [sM_sM])
theorem wCp27 (f : Nat → Int32) : (wC G ad V M en wo).set 27 (ad 27, .inl (G.2.2 2, 60, .inl f)) = wC G ad V (sM M 27 f) en wo := rfl
theorem wCg28 : (wC G ad V M en wo)[28]? = some (ad 28, .inl (G.2.2 0, 60, .inl (M 28))) := rfl
theorem wCo28 (f g : Nat → Int32) : (wC G ad V (sM M 28 g) en wo).set 28 (ad 28, .inl (G.2.2 0, 60, .inl f)) = wC G ad V (sM M 28 f) en wo := (show (wC G ad V (sM M 28 g) en wo).set 28 (ad 28, .inl (G.2.2 0, 60, .inl f)) = wC G ad V (sM (sM M 28 g) 28 f) en wo from rfl).trans (by rw [sM_sM])
theorem wCp28 (f : Nat → Int32) : (wC G ad V M en wo).set 28 (ad 28, .inl (G.2.2 0, 60, .inl f)) = wC G ad V (sM M 28 f) en wo := rfl
theorem wCg29 : (wC G ad V M en wo)[29]? = some (ad 29, .inl (G.2.2 0, 60, .inl (M 29))) := rfl
theorem wCo29 (f g : Nat → Int32) : (wC G ad V (sM M 29 g) en wo).set 29 (ad 29, .inl (G.2.2 0, 60, .inl f)) = wC G ad V (sM M 29 f) en wo := (show (wC G ad V (sM M 29 g) en wo).set 29 (ad 29, .inl (G.2.2 0, 60, .inl f)) = wC G ad V (sM (sM M 29 g) 29 f) en wo from rfl).trans (by rw [sM_sM])
theorem wCp29 (f : Nat → Int32) : (wC G ad V M en wo).set 29 (ad 29, .inl (G.2.2 0, 60, .inl f)) = wC G ad V (sM M 29 f) en wo := rfl
end WC
/-- a guarded reading, a guarded writing -/
def atF (N : Nat) (f : Nat → Int32) (i : Int32) : Int32 := if i < 0 then 0 else if nI N ≤ i then 0 else f i.toNatClampNeg
def setF (N : Nat) (f : Nat → Int32) (i x : Int32) : Nat → Int32 := if i < 0 then f else if nI N ≤ i then f else upd f i.toNatClampNeg x
theorem vp_in_of2 {i : Int32} {N : Nat} (h1 : ¬ i < 0) (h2 : ¬ nI N ≤ i) (hN : N < 2 ^ 31) : vp_in i N := by
  rcases pk_ix i hN with h | h | ⟨j, hj, rfl⟩
  · exact absurd h h1
  · exact absurd h h2
  · exact vp_in_nI hj hN
set_option maxRecDepth 100000 in
theorem c_at (G : jG) {w : va_W} {a N : Nat} {f : Nat → Int32} {i : Int32} (q : Nat) (he : w[q]? = some (a, .inl (G.2.2 0, N, .inl f))) (hN : N < 2 ^ 31) : jD G 0 yX11_at wsX11_at [.ref a, .int i] w (some (.int (atF N f i))) w := by
  refine jC.of (maxL := 2) (cc := cX11_at) (ret := some .int) rfl (by decide) [some (.ref a), some (.int i)] rfl (Nat.le_of_ble_eq_true rfl) (j_args rfl) (fun X hX => ?_)
  refine j_iload_n hX dX11_at_0 rfl ?_
  refine j_if_lt hX (tgt := 16) dX11_at_1 (by decide) (fun h1 => ?_) (fun h1 => ?_)
  · refine j_iconst hX (v := 0) (by decide) dX11_at_16 ?_
    exact j_iret hX dX11_at_17 ⟨by rw [atF, if_pos h1], rfl⟩
  · refine j_iload_n hX dX11_at_4 rfl ?_
    refine j_aload_n hX dX11_at_5 rfl ?_
    refine j_alen hX (v := nI N) dX11_at_6 q he 0 rfl rfl ?_
    refine j_icmp_ge hX (tgt := 16) dX11_at_7 (by decide) (fun h2 => ?_) (fun h2 => ?_)
    · refine j_iconst hX (v := 0) (by decide) dX11_at_16 ?_
      exact j_iret hX dX11_at_17 ⟨by rw [atF, if_neg h1, if_pos h2], rfl⟩
    · refine j_aload_n hX dX11_at_10 rfl ?_
      refine j_iload_n hX dX11_at_11 rfl ?_
      refine j_iald hX (v := f i.toNatClampNeg) dX11_at_12 q he (vp_in_of2 h1 h2 hN) rfl ?_
      refine j_goto hX (tgt := 17) dX11_at_13 (by decide) ?_
      exact j_iret hX dX11_at_17 ⟨by rw [atF, if_neg h1, if_neg h2], rfl⟩
set_option maxRecDepth 100000 in
theorem c_setAt (G : jG) {w : va_W} {a N : Nat} {f : Nat → Int32} {i x : Int32} (q : Nat) (he : w[q]? = some (a, .inl (G.2.2 0, N, .inl f))) (hN : N < 2 ^ 31) {w1 : va_W} (hw : w.set q (a, .inl (G.2.2 0, N, .inl (setF N f i x))) = w1) : jD G 0 yX11_setAt wsX11_setAt [.ref a, .int i, .int x] w none w1 := by
  have hself : w.set q (a, .inl (G.2.2 0, N, .inl f)) = w := by
    obtain ⟨h1, h2⟩ := List.getElem?_eq_some_iff.mp he
    rw [← h2, List.set_getElem_self]
  subst hw
  refine jC.of (maxL := 3) (cc := cX11_setAt) (ret := none) rfl (by decide) [some (.ref a), some (.int i), some (.int x)] rfl (Nat.le_of_ble_eq_true rfl) (j_args rfl) (fun X hX => ?_)
  refine j_iload_n hX dX11_setAt_0 rfl ?_
  refine j_if_lt hX (tgt := 14) dX11_setAt_1 (by decide) (fun h1 => ?_) (fun h1 => ?_)
  · exact j_vret hX dX11_setAt_14 ⟨rfl, by rw [setF, if_pos h1, hself]⟩
  · refine j_iload_n hX dX11_setAt_4 rfl ?_
    refine j_aload_n hX dX11_setAt_5 rfl ?_
    refine j_alen hX (v := nI N) dX11_setAt_6 q he 0 rfl rfl ?_
    refine j_icmp_ge hX (tgt := 14) dX11_setAt_7 (by decide) (fun h2 => ?_) (fun h2 => ?_)
    · exact j_vret hX dX11_setAt_14 ⟨rfl, by rw [setF, if_neg h1, if_pos h2, hself]⟩
    · refine j_aload_n hX dX11_setAt_10 rfl ?_
      refine j_iload_n hX dX11_setAt_11 rfl ?_
      refine j_iload_n hX dX11_setAt_12 rfl ?_
      refine j_iast hX dX11_setAt_13 q he (vp_in_of2 h1 h2 hN) rfl ?_
      exact j_vret hX dX11_setAt_14 ⟨rfl, by rw [setF, if_neg h1, if_neg h2]⟩
/-- the bit of a position; whether a position is in a set -/
def bitF (pos : Int32) : Int32 := 1 <<< ((6 - pos) &&& 31)
set_option maxRecDepth 100000 in
theorem c_bitOf (G : jG) {w : va_W} {i : Int32} : jD G 0 yX11_bitOf wsX11_bitOf [.int i] w (some (.int (bitF i))) w := by
  refine jC.of (maxL := 1) (cc := cX11_bitOf) (ret := some .int) rfl (by decide) [some (.int i)] rfl (Nat.le_of_ble_eq_true rfl) (j_args rfl) (fun X hX => ?_)
  refine j_iconst hX (v := 1) (by decide) dX11_bitOf_0 ?_
  refine j_bipush hX (v := 6) (by decide) dX11_bitOf_1 ?_
  refine j_iload_n hX dX11_bitOf_3 rfl ?_
  refine j_isub hX dX11_bitOf_4 ?_
  refine j_ishl hX dX11_bitOf_5 ?_
  exact j_iret hX dX11_bitOf_6 ⟨rfl, rfl⟩

def isInV (mask pos : Int32) : Int32 := if ((mask >>> ((6 - pos) &&& 31)) &&& 1) = 0 then 0 else 1
set_option maxRecDepth 100000 in
theorem c_isIn (G : jG) {w : va_W} {m i : Int32} : jD G 0 yX11_isIn wsX11_isIn [.int m, .int i] w (some (.int (isInV m i))) w := by
  refine jC.of (maxL := 2) (cc := cX11_isIn) (ret := some .boolean) rfl (by decide) [some (.int m), some (.int i)] rfl (Nat.le_of_ble_eq_true rfl) (j_args rfl) (fun X hX => ?_)
  refine j_iload_n hX dX11_isIn_0 rfl ?_
  refine j_bipush hX (v := 6) (by decide) dX11_isIn_1 ?_
  refine j_iload_n hX dX11_isIn_3 rfl ?_
  refine j_isub hX dX11_isIn_4 ?_
  refine j_ishr hX dX11_isIn_5 ?_
  refine j_iconst hX (v := 1) (by decide) dX11_isIn_6 ?_
  refine j_iand hX dX11_isIn_7 ?_
  refine j_if_eq hX (tgt := 15) dX11_isIn_8 (by decide) (fun h => ?_) (fun h => ?_)
  · refine j_iconst hX (v := 0) (by decide) dX11_isIn_15 ?_
    exact j_zret hX (by decide) dX11_isIn_16 ⟨by rw [isInV, if_pos h], rfl⟩
  · refine j_iconst hX (v := 1) (by decide) dX11_isIn_11 ?_
    refine j_goto hX (tgt := 16) dX11_isIn_12 (by decide) ?_
    exact j_zret hX (by decide) dX11_isIn_16 ⟨by rw [isInV, if_neg h], rfl⟩
def withinV (x lo hi : Int32) : Int32 := if x < lo then 0 else if hi < x then 0 else 1
set_option maxRecDepth 100000 in
theorem c_isWithin (G : jG) {w : va_W} {x lo hi : Int32} : jD G 0 yX11_isWithin wsX11_isWithin [.int x, .int lo, .int hi] w (some (.int (withinV x lo hi))) w := by
  refine jC.of (maxL := 3) (cc := cX11_isWithin) (ret := some .boolean) rfl (by decide) [some (.int x), some (.int lo), some (.int hi)] rfl (Nat.le_of_ble_eq_true rfl) (j_args rfl) (fun X hX => ?_)
  refine j_iload_n hX dX11_isWithin_0 rfl ?_
  refine j_iload_n hX dX11_isWithin_1 rfl ?_
  refine j_icmp_lt hX (tgt := 14) dX11_isWithin_2 (by decide) (fun h => ?_) (fun h => ?_)
  · refine j_iconst hX (v := 0) (by decide) dX11_isWithin_14 ?_
    exact j_zret hX (by decide) dX11_isWithin_15 ⟨by rw [withinV, if_pos h], rfl⟩
  · refine j_iload_n hX dX11_isWithin_5 rfl ?_
    refine j_iload_n hX dX11_isWithin_6 rfl ?_
    refine j_icmp_gt hX (tgt := 14) dX11_isWithin_7 (by decide) (fun h2 => ?_) (fun h2 => ?_)
    · refine j_iconst hX (v := 0) (by decide) dX11_isWithin_14 ?_
      exact j_zret hX (by decide) dX11_isWithin_15 ⟨by rw [withinV, if_neg h, if_pos h2], rfl⟩
    · refine j_iconst hX (v := 1) (by decide) dX11_isWithin_10 ?_
      refine j_goto hX (tgt := 15) dX11_isWithin_11 (by decide) ?_
      exact j_zret hX (by decide) dX11_isWithin_15 ⟨by rw [withinV, if_neg h, if_neg h2], rfl⟩
