/-! the numbers that the document tells of the roots of 2 to 60 (0 where it is a square), and what the reads of the class say of them -/
def perL : List Nat := [0, 0, 1, 2, 0, 1, 2, 4, 2, 0, 1, 2, 2, 5, 4, 2, 0, 1, 2, 6, 2, 6, 6, 4, 2, 0, 1, 2, 4, 5, 2, 8, 4, 4, 4, 2, 0, 1, 2, 2, 2, 3, 2, 10, 8, 6, 12, 4, 2, 0, 1, 2, 6, 5, 6, 4, 2, 6, 7, 6, 4]
def uxL : List Nat := [0, 0, 1, 2, 0, 2, 5, 8, 3, 0, 3, 10, 7, 18, 15, 4, 0, 4, 17, 170, 9, 55, 197, 24, 5, 0, 5, 26, 127, 70, 11, 1520, 17, 23, 35, 6, 0, 6, 37, 25, 19, 32, 13, 3482, 199, 161, 24335, 48, 7, 0, 7, 50, 649, 182, 485, 89, 15, 151, 99, 530, 31]
def uyL : List Nat := [0, 0, 1, 1, 0, 1, 2, 3, 1, 0, 1, 3, 2, 5, 4, 1, 0, 1, 4, 39, 2, 12, 42, 5, 1, 0, 1, 5, 24, 13, 2, 273, 3, 4, 6, 1, 0, 1, 6, 4, 3, 5, 2, 531, 30, 24, 3588, 7, 1, 0, 1, 7, 90, 25, 66, 12, 2, 20, 13, 69, 4]
def gpL : List Nat := [0, 0, 39, 26, 0, 24, 15, 12, 19, 0, 19, 11, 13, 9, 10, 17, 0, 16, 9, 6, 12, 7, 5, 9, 15, 0, 15, 8, 6, 7, 11, 4, 9, 9, 8, 14, 0, 14, 8, 9, 9, 8, 10, 3, 5, 6, 3, 7, 13, 0, 13, 7, 4, 5, 5, 6, 10, 6, 6, 5, 8]
def wrL : List Nat := [0, 1, 1, 1, 2, 2, 2, 2, 2, 3, 3, 3, 3, 3, 3, 3, 4, 4, 4, 4, 4, 4, 4, 4, 4, 5, 5, 5, 5, 5, 5, 5, 5, 5, 5, 5, 6, 6, 6, 6, 6, 6, 6, 6, 6, 6, 6, 6, 6, 7, 7, 7, 7, 7, 7, 7, 7, 7, 7, 7, 7]
def tPer : Nat → Int32 := fun k => nI (perL.getD k 0)
def tUx : Nat → Int32 := fun k => nI (uxL.getD k 0)
def tUy : Nat → Int32 := fun k => nI (uyL.getD k 0)
def tGp : Nat → Int32 := fun k => nI (gpL.getD k 0)
def wr (d : Nat) : Nat := wrL.getD d 0
def numF (n : Int32) : Int32 := if n < 2 then 0 else if 60 < n then 0 else 1
def tabF (t : Nat → Int32) (n : Int32) : Int32 := if n < 0 then 0 else if 61 ≤ n then 0 else t n.toNatClampNeg
def sqF (n : Int32) : Int32 := if n < 0 then 0 else if 61 ≤ n then 0 else if tPer n.toNatClampNeg = 0 then 1 else 0
def sgF (n : Int32) : Int32 := if tabF tPer n - tabF tPer n / 2 * 2 = 0 then 1 else -1
def hOf (f : Nat → Int32) (n : Int32) : Int32 := if n < 0 then -1 else if 61 ≤ n then -1 else f n.toNatClampNeg
def hasF (f : Nat → Int32) (n : Int32) : Int32 := if hOf f n = -1 then 0 else 1
def signF (f : Nat → Int32) (n : Int32) : Int32 := if sgF n = -1 then (if hOf f n - hOf f n / 2 * 2 = 1 then -1 else 1) else 1
def rsnF (f : Nat → Int32) (l n : Int32) : Int32 := if sqF n = 0 then (if hOf f n = -1 then (if l < 8 then 0 else 3) else 2) else 1
def causeF (f : Nat → Int32) (l ch n : Int32) : Int32 :=
  if numF n = 0 then 1 else if ch = 108 then (if rsnF f l n = 0 then 0 else 2) else if ch = 109 then (if hOf f n = -1 then 2 else if tabF tGp n ≤ hOf f n then 2 else 0)
  else if ch = 98 then (if hOf f n ≤ 0 then 2 else 0) else (if hOf f n = -1 then 2 else 0)
def setH (f : Nat → Int32) (n v : Int32) : Nat → Int32 := if n < 0 then f else if 61 ≤ n then f else upd f n.toNatClampNeg v
def coF (f : Nat → Int32) (l m ch n : Int32) : (Nat → Int32) × Int32 × Int32 :=
  if ch = 108 then (setH f n 0, l + 1, m) else if ch = 116 then (setH f n (-1), l - 1, m) else if ch = 109 then (setH f n (hOf f n + 1), l, m + 1)
  else if ch = 98 then (setH f n (hOf f n - 1), l, m) else (f, l, m)
/-- one step of the terms: m, q, a -/
def tnF (nu wh m q t : Int32) : Int32 × Int32 × Int32 :=
  if q = 0 then (m, q, t) else if (nu - (q * t - m) * (q * t - m)) / q = 0 then (q * t - m, (nu - (q * t - m) * (q * t - m)) / q, t)
  else (q * t - m, (nu - (q * t - m) * (q * t - m)) / q, (wh + (q * t - m)) / ((nu - (q * t - m) * (q * t - m)) / q))
