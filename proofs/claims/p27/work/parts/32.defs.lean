-- java/lang/Math.floorMod
def f_J9_floorMod_7cf53 (N : Nat) (G : qG)  (x0 : Int) (x1 : Int) (m0 : qM) : Option (Int × qM) :=
  ckD x1 <| ckI (x0 - x0.tdiv x1 * x1) fun v1 =>
  kp (iXor x0 x1) fun v2 =>
  if v2 < 0 then (
    if v1 = 0 then (
      some (v1, m0))
    else (
      ckI (v1 + x1) fun v5 =>
      some (v5, m0)))
  else (
    some (v1, m0))
-- ProRataMarket$Book.isFull
def f_X0_isFull (N : Nat) (G : qG)  (x0 : Nat) (m0 : qM) : Option (Int × qM) :=
  if (gI m0 1 x0) < 60 then (
    some (0, m0))
  else (
    some (1, m0))
-- ProRataMarket$Order.become
def f_X4_become (N : Nat) (G : qG)  (x0 : Nat) (x1 : Int) (x2 : Int) (x3 : Int) (x4 : Int) (x5 : Int) (m0 : qM) : Option (qM) :=
  kp (sI m0 400 x0 x1) fun m1 =>
  kp (sI m1 401 x0 x2) fun m2 =>
  kp (sI m2 402 x0 x3) fun m3 =>
  kp (sI m3 403 x0 x4) fun m4 =>
  kp (sI m4 404 x0 x5) fun m5 =>
  kp (sI m5 405 x0 x5) fun m6 =>
  some m6
-- ProRataMarket$Order.copyFrom
def f_X4_copyFrom (N : Nat) (G : qG)  (x0 : Nat) (x1 : Nat) (m0 : qM) : Option (qM) :=
  kb (f_X4_become N G x0 (gI m0 400 x1) (gI m0 401 x1) (gI m0 402 x1) (gI m0 403 x1) (gI m0 404 x1) m0) fun m1 =>
  kp (sI m1 405 x0 (gI m1 405 x1)) fun m3 =>
  some m3
-- ProRataMarket$Book.add
def f_X0_add (N : Nat) (G : qG)  (x0 : Nat) (x1 : Nat) (m0 : qM) : Option (qM) :=
  kb2 (f_X0_isFull N G x0 m0) fun v2 m1 =>
  if v2 = 0 then (
    rdQ (gK G) 5 m1 (gR G 0 x0) (gI m1 1 x0) 60 fun o4 =>
    kb (f_X4_copyFrom N G o4 x1 m1) fun m5 =>
    ckI ((gI m5 1 x0) + 1) fun v7 =>
    kp (sI m5 1 x0 v7) fun m8 =>
    some m8)
  else (
    some m1)
-- ProRataMarket.isBetter
def f_X7_isBetter (N : Nat) (G : qG)  (x0 : Int) (x1 : Int) (x2 : Int) (m0 : qM) : Option (Int × qM) :=
  if x0 = 0 then (
    if x2 < x1 then (
      some (1, m0))
    else (
      some (0, m0)))
  else (
    if x1 < x2 then (
      some (1, m0))
    else (
      some (0, m0)))
-- ProRataMarket$Book.nextPrice
def f_X0_nextPrice_68 (N : Nat) (G : qG) (k5 : (Nat → Int → Int → Int → Int → qM → Option (Int × qM))) (x0 : Nat) (x1 : Int) (x2 : Int) (x3 : Int) (x4 : Int) (m0 : qM) : Option (Int × qM) :=
  ckI (x4 + 1) fun v1 =>
  k5 x0 x1 x2 x3 v1 m0
def f_X0_nextPrice_62 (N : Nat) (G : qG) (k5 : (Nat → Int → Int → Int → Int → qM → Option (Int × qM))) (x0 : Nat) (x1 : Int) (x2 : Int) (x4 : Int) (x5 : Nat) (m0 : qM) : Option (Int × qM) :=
  f_X0_nextPrice_68 N G k5 x0 x1 x2 (gI m0 403 x5) x4 m0
def f_X0_nextPrice_5 (N : Nat) (G : qG) (k5 : (Nat → Int → Int → Int → Int → qM → Option (Int × qM))) (x0 : Nat) (x1 : Int) (x2 : Int) (x3 : Int) (x4 : Int) (m0 : qM) : Option (Int × qM) :=
  if x4 < (gI m0 1 x0) then (
    rdQ (gK G) 5 m0 (gR G 0 x0) x4 60 fun o2 =>
    if (gI m0 402 o2) = x1 then (
      kb2 (f_X7_isBetter N G x1 x2 (gI m0 403 o2) m0) fun v5 m4 =>
      if v5 = 0 then (
        f_X0_nextPrice_68 N G k5 x0 x1 x2 x3 x4 m4)
      else (
        if x3 = 0 then (
          f_X0_nextPrice_62 N G k5 x0 x1 x2 x4 o2 m4)
        else (
          kb2 (f_X7_isBetter N G x1 (gI m4 403 o2) x3 m4) fun v9 m8 =>
          if v9 = 0 then (
            f_X0_nextPrice_68 N G k5 x0 x1 x2 x3 x4 m8)
          else (
            f_X0_nextPrice_62 N G k5 x0 x1 x2 x4 o2 m8))))
    else (
      f_X0_nextPrice_68 N G k5 x0 x1 x2 x3 x4 m0))
  else (
    some (x3, m0))
def f_X0_nextPrice_L5 (N : Nat) (G : qG)  (x0 : Nat) (x1 : Int) (x2 : Int) (x3 : Int) (x4 : Int) (m0 : qM) : Option (Int × qM) :=
  qLoop (fun k p => f_X0_nextPrice_5 N G (fun x0 x1 x2 x3 x4 m0 => k (x0, x1, x2, x3, x4, m0)) p.1 p.2.1 p.2.2.1 p.2.2.2.1 p.2.2.2.2.1 p.2.2.2.2.2) N (x0, x1, x2, x3, x4, m0)
def f_X0_nextPrice (N : Nat) (G : qG)  (x0 : Nat) (x1 : Int) (x2 : Int) (m0 : qM) : Option (Int × qM) :=
  f_X0_nextPrice_L5 N G  x0 x1 x2 0 0 m0
-- ProRataMarket$Book.best
def f_X0_best_12 (N : Nat) (G : qG)  (s0 : Nat) (s1 : Int) (s2 : Int) (m0 : qM) : Option (Int × qM) :=
  kb2 (f_X0_nextPrice N G s0 s1 s2 m0) fun v2 m1 =>
  some (v2, m1)
def f_X0_best (N : Nat) (G : qG)  (x0 : Nat) (x1 : Int) (m0 : qM) : Option (Int × qM) :=
  if x1 = 0 then (
    f_X0_best_12 N G  x0 x1 10000000 m0)
  else (
    f_X0_best_12 N G  x0 x1 0 m0)
-- ProRataMarket$Book.betterSizes
def f_X0_betterSizes_60 (N : Nat) (G : qG) (k4 : (Nat → Nat → Int → Int → qM → Option (Int × qM))) (x0 : Nat) (x1 : Nat) (x2 : Int) (x3 : Int) (m0 : qM) : Option (Int × qM) :=
  ckI (x3 + 1) fun v1 =>
  k4 x0 x1 x2 v1 m0
def f_X0_betterSizes_4 (N : Nat) (G : qG) (k4 : (Nat → Nat → Int → Int → qM → Option (Int × qM))) (x0 : Nat) (x1 : Nat) (x2 : Int) (x3 : Int) (m0 : qM) : Option (Int × qM) :=
  if x3 < (gI m0 1 x0) then (
    rdQ (gK G) 5 m0 (gR G 0 x0) x3 60 fun o2 =>
    if (gI m0 402 o2) = (gI m0 402 x1) then (
      kb2 (f_X7_isBetter N G (gI m0 402 o2) (gI m0 403 o2) (gI m0 403 x1) m0) fun v5 m4 =>
      if v5 = 0 then (
        f_X0_betterSizes_60 N G k4 x0 x1 x2 x3 m4)
      else (
        ckI (x2 + (gI m4 404 o2)) fun v7 =>
        f_X0_betterSizes_60 N G k4 x0 x1 v7 x3 m4))
    else (
      f_X0_betterSizes_60 N G k4 x0 x1 x2 x3 m0))
  else (
    some (x2, m0))
def f_X0_betterSizes_L4 (N : Nat) (G : qG)  (x0 : Nat) (x1 : Nat) (x2 : Int) (x3 : Int) (m0 : qM) : Option (Int × qM) :=
  qLoop (fun k p => f_X0_betterSizes_4 N G (fun x0 x1 x2 x3 m0 => k (x0, x1, x2, x3, m0)) p.1 p.2.1 p.2.2.1 p.2.2.2.1 p.2.2.2.2) N (x0, x1, x2, x3, m0)
def f_X0_betterSizes (N : Nat) (G : qG)  (x0 : Nat) (x1 : Nat) (m0 : qM) : Option (Int × qM) :=
  f_X0_betterSizes_L4 N G  x0 x1 0 0 m0
-- ProRataMarket$Book.copyFrom
def f_X0_copyFrom_41 (N : Nat) (G : qG) (k41 : (Nat → Nat → Int → qM → Option (qM))) (x0 : Nat) (x1 : Nat) (x2 : Int) (m0 : qM) : Option (qM) :=
  if x2 < 2 then (
    rdA m0 (gR G 2 x1) x2 2 fun v2 =>
    wrA m0 (gR G 2 x0) x2 2 v2 fun m3 =>
    rdA m3 (gR G 3 x1) x2 2 fun v4 =>
    wrA m3 (gR G 3 x0) x2 2 v4 fun m5 =>
    ckI (x2 + 1) fun v6 =>
    k41 x0 x1 v6 m5)
  else (
    some m0)
def f_X0_copyFrom_L41 (N : Nat) (G : qG)  (x0 : Nat) (x1 : Nat) (x2 : Int) (m0 : qM) : Option (qM) :=
  qLoop (fun k p => f_X0_copyFrom_41 N G (fun x0 x1 x2 m0 => k (x0, x1, x2, m0)) p.1 p.2.1 p.2.2.1 p.2.2.2) N (x0, x1, x2, m0)
def f_X0_copyFrom_10 (N : Nat) (G : qG) (k10 : (Nat → Nat → Int → qM → Option (qM))) (x0 : Nat) (x1 : Nat) (x2 : Int) (m0 : qM) : Option (qM) :=
  if x2 < (gI m0 1 x0) then (
    rdQ (gK G) 5 m0 (gR G 0 x0) x2 60 fun o2 =>
    rdQ (gK G) 5 m0 (gR G 0 x1) x2 60 fun o3 =>
    kb (f_X4_copyFrom N G o2 o3 m0) fun m4 =>
    ckI (x2 + 1) fun v6 =>
    k10 x0 x1 v6 m4)
  else (
    f_X0_copyFrom_L41 N G  x0 x1 0 m0)
def f_X0_copyFrom_L10 (N : Nat) (G : qG)  (x0 : Nat) (x1 : Nat) (x2 : Int) (m0 : qM) : Option (qM) :=
  qLoop (fun k p => f_X0_copyFrom_10 N G (fun x0 x1 x2 m0 => k (x0, x1, x2, m0)) p.1 p.2.1 p.2.2.1 p.2.2.2) N (x0, x1, x2, m0)
def f_X0_copyFrom (N : Nat) (G : qG)  (x0 : Nat) (x1 : Nat) (m0 : qM) : Option (qM) :=
  kp (sI m0 1 x0 (gI m0 1 x1)) fun m1 =>
  f_X0_copyFrom_L10 N G  x0 x1 0 m1
-- ProRataMarket$Book.isAt
def f_X0_isAt (N : Nat) (G : qG)  (x0 : Nat) (x1 : Int) (x2 : Int) (x3 : Int) (m0 : qM) : Option (Int × qM) :=
  rdQ (gK G) 5 m0 (gR G 0 x0) x1 60 fun o1 =>
  if (gI m0 402 o1) = x2 then (
    rdQ (gK G) 5 m0 (gR G 0 x0) x1 60 fun o3 =>
    if (gI m0 403 o3) = x3 then (
      some (1, m0))
    else (
      some (0, m0)))
  else (
    some (0, m0))
-- ProRataMarket$Book.earlierSizes
def f_X0_earlierSizes_52 (N : Nat) (G : qG) (k4 : (Nat → Nat → Int → Int → qM → Option (Int × qM))) (x0 : Nat) (x1 : Nat) (x3 : Int) (s0 : Int) (s1 : Int) (m0 : qM) : Option (Int × qM) :=
  ckI (s0 + s1) fun v1 =>
  ckI (x3 + 1) fun v2 =>
  k4 x0 x1 v1 v2 m0
def f_X0_earlierSizes_4 (N : Nat) (G : qG) (k4 : (Nat → Nat → Int → Int → qM → Option (Int × qM))) (x0 : Nat) (x1 : Nat) (x2 : Int) (x3 : Int) (m0 : qM) : Option (Int × qM) :=
  if x3 < (gI m0 1 x0) then (
    rdQ (gK G) 5 m0 (gR G 0 x0) x3 60 fun o2 =>
    if o2 = x1 then (
      some (x2, m0))
    else (
      kb2 (f_X0_isAt N G x0 x3 (gI m0 402 x1) (gI m0 403 x1) m0) fun v5 m4 =>
      if v5 = 0 then (
        f_X0_earlierSizes_52 N G k4 x0 x1 x3 x2 0 m4)
      else (
        rdQ (gK G) 5 m4 (gR G 0 x0) x3 60 fun o7 =>
        f_X0_earlierSizes_52 N G k4 x0 x1 x3 x2 (gI m4 404 o7) m4)))
  else (
    some (x2, m0))
def f_X0_earlierSizes_L4 (N : Nat) (G : qG)  (x0 : Nat) (x1 : Nat) (x2 : Int) (x3 : Int) (m0 : qM) : Option (Int × qM) :=
  qLoop (fun k p => f_X0_earlierSizes_4 N G (fun x0 x1 x2 x3 m0 => k (x0, x1, x2, x3, m0)) p.1 p.2.1 p.2.2.1 p.2.2.2.1 p.2.2.2.2) N (x0, x1, x2, x3, m0)
def f_X0_earlierSizes (N : Nat) (G : qG)  (x0 : Nat) (x1 : Nat) (m0 : qM) : Option (Int × qM) :=
  f_X0_earlierSizes_L4 N G  x0 x1 0 0 m0
-- ProRataMarket$Book.find
def f_X0_find_2 (N : Nat) (G : qG) (k2 : (Nat → Int → Int → qM → Option (Option Nat × qM))) (x0 : Nat) (x1 : Int) (x2 : Int) (m0 : qM) : Option (Option Nat × qM) :=
  if x2 < (gI m0 1 x0) then (
    rdQ (gK G) 5 m0 (gR G 0 x0) x2 60 fun o2 =>
    if (gI m0 400 o2) = x1 then (
      rdQ (gK G) 5 m0 (gR G 0 x0) x2 60 fun o5 =>
      some (some o5, m0))
    else (
      ckI (x2 + 1) fun v4 =>
      k2 x0 x1 v4 m0))
  else (
    some (none, m0))
def f_X0_find_L2 (N : Nat) (G : qG)  (x0 : Nat) (x1 : Int) (x2 : Int) (m0 : qM) : Option (Option Nat × qM) :=
  qLoop (fun k p => f_X0_find_2 N G (fun x0 x1 x2 m0 => k (x0, x1, x2, m0)) p.1 p.2.1 p.2.2.1 p.2.2.2) N (x0, x1, x2, m0)
def f_X0_find (N : Nat) (G : qG)  (x0 : Nat) (x1 : Int) (m0 : qM) : Option (Option Nat × qM) :=
  f_X0_find_L2 N G  x0 x1 0 m0
-- ProRataMarket$Book.grantOf
def f_X0_grantOf (N : Nat) (G : qG)  (x0 : Nat) (x1 : Nat) (m0 : qM) : Option (Int × qM) :=
  rdA m0 (gR G 2 x0) (gI m0 402 x1) 2 fun v1 =>
  if v1 = (gI m0 400 x1) then (
    rdA m0 (gR G 3 x0) (gI m0 402 x1) 2 fun v3 =>
    some (v3, m0))
  else (
    some (0, m0))
-- ProRataMarket$Book.lapse
def f_X0_lapse (N : Nat) (G : qG)  (x0 : Nat) (x1 : Nat) (m0 : qM) : Option (qM) :=
  rdA m0 (gR G 2 x0) (gI m0 402 x1) 2 fun v1 =>
  if v1 = (gI m0 400 x1) then (
    wrA m0 (gR G 2 x0) (gI m0 402 x1) 2 0 fun m3 =>
    wrA m3 (gR G 3 x0) (gI m3 402 x1) 2 0 fun m4 =>
    some m4)
  else (
    some m0)
-- ProRataMarket$Book.lapseAll
def f_X0_lapseAll_2 (N : Nat) (G : qG) (k2 : (Nat → Int → qM → Option (qM))) (x0 : Nat) (x1 : Int) (m0 : qM) : Option (qM) :=
  if x1 < 2 then (
    wrA m0 (gR G 2 x0) x1 2 0 fun m2 =>
    wrA m2 (gR G 3 x0) x1 2 0 fun m3 =>
    ckI (x1 + 1) fun v4 =>
    k2 x0 v4 m3)
  else (
    some m0)
def f_X0_lapseAll_L2 (N : Nat) (G : qG)  (x0 : Nat) (x1 : Int) (m0 : qM) : Option (qM) :=
  qLoop (fun k p => f_X0_lapseAll_2 N G (fun x0 x1 m0 => k (x0, x1, m0)) p.1 p.2.1 p.2.2) N (x0, x1, m0)
def f_X0_lapseAll (N : Nat) (G : qG)  (x0 : Nat) (m0 : qM) : Option (qM) :=
  f_X0_lapseAll_L2 N G  x0 0 m0
-- ProRataMarket$Book.makeTop
def f_X0_makeTop (N : Nat) (G : qG)  (x0 : Nat) (x1 : Nat) (x2 : Int) (m0 : qM) : Option (qM) :=
  wrA m0 (gR G 2 x0) (gI m0 402 x1) 2 (gI m0 400 x1) fun m1 =>
  wrA m1 (gR G 3 x0) (gI m1 402 x1) 2 x2 fun m2 =>
  some m2
-- ProRataMarket$Book.numberAt
def f_X0_numberAt_46 (N : Nat) (G : qG) (k6 : (Nat → Int → Int → Int → Int → Int → qM → Option (Int × qM))) (x0 : Nat) (x1 : Int) (x2 : Int) (x3 : Int) (x4 : Int) (x5 : Int) (m0 : qM) : Option (Int × qM) :=
  ckI (x5 + 1) fun v1 =>
  k6 x0 x1 x2 x3 x4 v1 m0
def f_X0_numberAt_6 (N : Nat) (G : qG) (k6 : (Nat → Int → Int → Int → Int → Int → qM → Option (Int × qM))) (x0 : Nat) (x1 : Int) (x2 : Int) (x3 : Int) (x4 : Int) (x5 : Int) (m0 : qM) : Option (Int × qM) :=
  if x5 < (gI m0 1 x0) then (
    kb2 (f_X0_isAt N G x0 x5 x1 x2 m0) fun v3 m2 =>
    if v3 = 0 then (
      f_X0_numberAt_46 N G k6 x0 x1 x2 x3 x4 x5 m2)
    else (
      if x4 = x3 then (
        rdQ (gK G) 5 m2 (gR G 0 x0) x5 60 fun o7 =>
        some (gI m2 400 o7, m2))
      else (
        ckI (x4 + 1) fun v6 =>
        f_X0_numberAt_46 N G k6 x0 x1 x2 x3 v6 x5 m2)))
  else (
    some ((-1), m0))
def f_X0_numberAt_L6 (N : Nat) (G : qG)  (x0 : Nat) (x1 : Int) (x2 : Int) (x3 : Int) (x4 : Int) (x5 : Int) (m0 : qM) : Option (Int × qM) :=
  qLoop (fun k p => f_X0_numberAt_6 N G (fun x0 x1 x2 x3 x4 x5 m0 => k (x0, x1, x2, x3, x4, x5, m0)) p.1 p.2.1 p.2.2.1 p.2.2.2.1 p.2.2.2.2.1 p.2.2.2.2.2.1 p.2.2.2.2.2.2) N (x0, x1, x2, x3, x4, x5, m0)
def f_X0_numberAt (N : Nat) (G : qG)  (x0 : Nat) (x1 : Int) (x2 : Int) (x3 : Int) (m0 : qM) : Option (Int × qM) :=
  f_X0_numberAt_L6 N G  x0 x1 x2 x3 0 0 m0
-- ProRataMarket$Book.ordersAt
def f_X0_ordersAt_31 (N : Nat) (G : qG) (k5 : (Nat → Int → Int → Int → Int → qM → Option (Int × qM))) (x0 : Nat) (x1 : Int) (x2 : Int) (x4 : Int) (s0 : Int) (s1 : Int) (m0 : qM) : Option (Int × qM) :=
  ckI (s0 + s1) fun v1 =>
  ckI (x4 + 1) fun v2 =>
  k5 x0 x1 x2 v1 v2 m0
def f_X0_ordersAt_5 (N : Nat) (G : qG) (k5 : (Nat → Int → Int → Int → Int → qM → Option (Int × qM))) (x0 : Nat) (x1 : Int) (x2 : Int) (x3 : Int) (x4 : Int) (m0 : qM) : Option (Int × qM) :=
  if x4 < (gI m0 1 x0) then (
    kb2 (f_X0_isAt N G x0 x4 x1 x2 m0) fun v3 m2 =>
    if v3 = 0 then (
      f_X0_ordersAt_31 N G k5 x0 x1 x2 x4 x3 0 m2)
    else (
      f_X0_ordersAt_31 N G k5 x0 x1 x2 x4 x3 1 m2))
  else (
    some (x3, m0))
def f_X0_ordersAt_L5 (N : Nat) (G : qG)  (x0 : Nat) (x1 : Int) (x2 : Int) (x3 : Int) (x4 : Int) (m0 : qM) : Option (Int × qM) :=
  qLoop (fun k p => f_X0_ordersAt_5 N G (fun x0 x1 x2 x3 x4 m0 => k (x0, x1, x2, x3, x4, m0)) p.1 p.2.1 p.2.2.1 p.2.2.2.1 p.2.2.2.2.1 p.2.2.2.2.2) N (x0, x1, x2, x3, x4, m0)
def f_X0_ordersAt (N : Nat) (G : qG)  (x0 : Nat) (x1 : Int) (x2 : Int) (m0 : qM) : Option (Int × qM) :=
  f_X0_ordersAt_L5 N G  x0 x1 x2 0 0 m0
-- ProRataMarket$Book.priceAt
def f_X0_priceAt_21 (N : Nat) (G : qG) (k21 : (Nat → Int → Int → Int → Int → qM → Option (Int × qM))) (x0 : Nat) (x1 : Int) (x2 : Int) (x3 : Int) (x4 : Int) (m0 : qM) : Option (Int × qM) :=
  if x4 < x2 then (
    if 0 < x3 then (
      kb2 (f_X0_nextPrice N G x0 x1 x3 m0) fun v4 m3 =>
      ckI (x4 + 1) fun v5 =>
      k21 x0 x1 x2 v4 v5 m3)
    else (
      some (x3, m0)))
  else (
    some (x3, m0))
def f_X0_priceAt_L21 (N : Nat) (G : qG)  (x0 : Nat) (x1 : Int) (x2 : Int) (x3 : Int) (x4 : Int) (m0 : qM) : Option (Int × qM) :=
  qLoop (fun k p => f_X0_priceAt_21 N G (fun x0 x1 x2 x3 x4 m0 => k (x0, x1, x2, x3, x4, m0)) p.1 p.2.1 p.2.2.1 p.2.2.2.1 p.2.2.2.2.1 p.2.2.2.2.2) N (x0, x1, x2, x3, x4, m0)
def f_X0_priceAt (N : Nat) (G : qG)  (x0 : Nat) (x1 : Int) (x2 : Int) (m0 : qM) : Option (Int × qM) :=
  if x2 < 0 then (
    some (0, m0))
  else (
    if x2 < 60 then (
      kb2 (f_X0_best N G x0 x1 m0) fun v4 m3 =>
      f_X0_priceAt_L21 N G  x0 x1 x2 v4 0 m3)
    else (
      some (0, m0)))
-- ProRataMarket$Book.prices
def f_X0_prices_11 (N : Nat) (G : qG) (k11 : (Nat → Int → Int → Int → Int → qM → Option (Int × qM))) (x0 : Nat) (x1 : Int) (x2 : Int) (x3 : Int) (x4 : Int) (m0 : qM) : Option (Int × qM) :=
  if x4 < 60 then (
    if 0 < x2 then (
      ckI (x3 + 1) fun v3 =>
      kb2 (f_X0_nextPrice N G x0 x1 x2 m0) fun v5 m4 =>
      ckI (x4 + 1) fun v6 =>
      k11 x0 x1 v5 v3 v6 m4)
    else (
      some (x3, m0)))
  else (
    some (x3, m0))
def f_X0_prices_L11 (N : Nat) (G : qG)  (x0 : Nat) (x1 : Int) (x2 : Int) (x3 : Int) (x4 : Int) (m0 : qM) : Option (Int × qM) :=
  qLoop (fun k p => f_X0_prices_11 N G (fun x0 x1 x2 x3 x4 m0 => k (x0, x1, x2, x3, x4, m0)) p.1 p.2.1 p.2.2.1 p.2.2.2.1 p.2.2.2.2.1 p.2.2.2.2.2) N (x0, x1, x2, x3, x4, m0)
def f_X0_prices (N : Nat) (G : qG)  (x0 : Nat) (x1 : Int) (m0 : qM) : Option (Int × qM) :=
  kb2 (f_X0_best N G x0 x1 m0) fun v2 m1 =>
  f_X0_prices_L11 N G  x0 x1 v2 0 0 m1
-- ProRataMarket$Book.sizesAt
def f_X0_sizesAt_40 (N : Nat) (G : qG) (k5 : (Nat → Int → Int → Int → Int → qM → Option (Int × qM))) (x0 : Nat) (x1 : Int) (x2 : Int) (x4 : Int) (s0 : Int) (s1 : Int) (m0 : qM) : Option (Int × qM) :=
  ckI (s0 + s1) fun v1 =>
  ckI (x4 + 1) fun v2 =>
  k5 x0 x1 x2 v1 v2 m0
def f_X0_sizesAt_5 (N : Nat) (G : qG) (k5 : (Nat → Int → Int → Int → Int → qM → Option (Int × qM))) (x0 : Nat) (x1 : Int) (x2 : Int) (x3 : Int) (x4 : Int) (m0 : qM) : Option (Int × qM) :=
  if x4 < (gI m0 1 x0) then (
    kb2 (f_X0_isAt N G x0 x4 x1 x2 m0) fun v3 m2 =>
    if v3 = 0 then (
      f_X0_sizesAt_40 N G k5 x0 x1 x2 x4 x3 0 m2)
    else (
      rdQ (gK G) 5 m2 (gR G 0 x0) x4 60 fun o5 =>
      f_X0_sizesAt_40 N G k5 x0 x1 x2 x4 x3 (gI m2 404 o5) m2))
  else (
    some (x3, m0))
def f_X0_sizesAt_L5 (N : Nat) (G : qG)  (x0 : Nat) (x1 : Int) (x2 : Int) (x3 : Int) (x4 : Int) (m0 : qM) : Option (Int × qM) :=
  qLoop (fun k p => f_X0_sizesAt_5 N G (fun x0 x1 x2 x3 x4 m0 => k (x0, x1, x2, x3, x4, m0)) p.1 p.2.1 p.2.2.1 p.2.2.2.1 p.2.2.2.2.1 p.2.2.2.2.2) N (x0, x1, x2, x3, x4, m0)
def f_X0_sizesAt (N : Nat) (G : qG)  (x0 : Nat) (x1 : Int) (x2 : Int) (m0 : qM) : Option (Int × qM) :=
  f_X0_sizesAt_L5 N G  x0 x1 x2 0 0 m0
-- ProRataMarket$Book.sweep
def f_X0_sweep_56 (N : Nat) (G : qG) (k4 : (Nat → Int → Int → qM → Option (qM))) (x0 : Nat) (x1 : Int) (x2 : Int) (m0 : qM) : Option (qM) :=
  ckI (x2 + 1) fun v1 =>
  k4 x0 x1 v1 m0
def f_X0_sweep_4 (N : Nat) (G : qG) (k4 : (Nat → Int → Int → qM → Option (qM))) (x0 : Nat) (x1 : Int) (x2 : Int) (m0 : qM) : Option (qM) :=
  if x2 < (gI m0 1 x0) then (
    rdQ (gK G) 5 m0 (gR G 0 x0) x2 60 fun o3 =>
    if 0 < (gI m0 404 o3) then (
      rdQ (gK G) 5 m0 (gR G 0 x0) x1 60 fun o7 =>
      wrQ m0 (gR G 0 x0) x2 60 o7 fun m8 =>
      wrQ m8 (gR G 0 x0) x1 60 o3 fun m9 =>
      ckI (x1 + 1) fun v10 =>
      f_X0_sweep_56 N G k4 x0 v10 x2 m9)
    else (
      kb (f_X0_lapse N G x0 o3 m0) fun m5 =>
      f_X0_sweep_56 N G k4 x0 x1 x2 m5))
  else (
    kp (sI m0 1 x0 x1) fun m2 =>
    some m2)
def f_X0_sweep_L4 (N : Nat) (G : qG)  (x0 : Nat) (x1 : Int) (x2 : Int) (m0 : qM) : Option (qM) :=
  qLoop (fun k p => f_X0_sweep_4 N G (fun x0 x1 x2 m0 => k (x0, x1, x2, m0)) p.1 p.2.1 p.2.2.1 p.2.2.2) N (x0, x1, x2, m0)
def f_X0_sweep (N : Nat) (G : qG)  (x0 : Nat) (m0 : qM) : Option (qM) :=
  f_X0_sweep_L4 N G  x0 0 0 m0
-- ProRataMarket$Book.useGrant
def f_X0_useGrant (N : Nat) (G : qG)  (x0 : Nat) (x1 : Nat) (x2 : Int) (m0 : qM) : Option (qM) :=
  rdA m0 (gR G 3 x0) (gI m0 402 x1) 2 fun v1 =>
  ckI (v1 - x2) fun v2 =>
  wrA m0 (gR G 3 x0) (gI m0 402 x1) 2 v2 fun m3 =>
  rdA m3 (gR G 3 x0) (gI m3 402 x1) 2 fun v4 =>
  if 0 < v4 then (
    some m3)
  else (
    wrA m3 (gR G 2 x0) (gI m3 402 x1) 2 0 fun m6 =>
    some m6)
-- ProRataMarket$Clearing.isPreferred
def f_X1_isPreferred (N : Nat) (G : qG)  (x0 : Nat) (x1 : Int) (x2 : Int) (x3 : Int) (x4 : Int) (m0 : qM) : Option (Int × qM) :=
  if x2 = (gI m0 101 x0) then (
    ckI (if 0 ≤ x3 then x3 else 0 - x3) fun v2 =>
    ckI (if 0 ≤ (gI m0 102 x0) then (gI m0 102 x0) else 0 - (gI m0 102 x0)) fun v3 =>
    if v2 = v3 then (
      ckI (x1 - x4) fun v5 =>
      ckI (if 0 ≤ v5 then v5 else 0 - v5) fun v6 =>
      ckI ((gI m0 100 x0) - x4) fun v7 =>
      ckI (if 0 ≤ v7 then v7 else 0 - v7) fun v8 =>
      if v6 = v8 then (
        if x1 < (gI m0 100 x0) then (
          some (1, m0))
        else (
          some (0, m0)))
      else (
        ckI (x1 - x4) fun v11 =>
        ckI (if 0 ≤ v11 then v11 else 0 - v11) fun v12 =>
        ckI ((gI m0 100 x0) - x4) fun v13 =>
        ckI (if 0 ≤ v13 then v13 else 0 - v13) fun v14 =>
        if v12 < v14 then (
          some (1, m0))
        else (
          some (0, m0))))
    else (
      ckI (if 0 ≤ x3 then x3 else 0 - x3) fun v16 =>
      ckI (if 0 ≤ (gI m0 102 x0) then (gI m0 102 x0) else 0 - (gI m0 102 x0)) fun v17 =>
      if v16 < v17 then (
        some (1, m0))
      else (
        some (0, m0))))
  else (
    if (gI m0 101 x0) < x2 then (
      some (1, m0))
    else (
      some (0, m0)))
-- ProRataMarket$Clearing.consider
def f_X1_consider_96 (N : Nat) (G : qG) (k21 : (Nat → Nat → Int → Int → Int → Int → Int → qM → Option (qM))) (x0 : Nat) (x1 : Nat) (x2 : Int) (x3 : Int) (x4 : Int) (x5 : Int) (x6 : Int) (m0 : qM) : Option (qM) :=
  ckI (x6 + 1) fun v1 =>
  k21 x0 x1 x2 x3 x4 x5 v1 m0
def f_X1_consider_93 (N : Nat) (G : qG) (k21 : (Nat → Nat → Int → Int → Int → Int → Int → qM → Option (qM))) (x0 : Nat) (x1 : Nat) (x2 : Int) (x3 : Int) (x4 : Int) (x6 : Int) (s0 : Int) (s1 : Int) (m0 : qM) : Option (qM) :=
  ckI (s0 + s1) fun v1 =>
  f_X1_consider_96 N G k21 x0 x1 x2 x3 x4 v1 x6 m0
def f_X1_consider_67 (N : Nat) (G : qG) (k21 : (Nat → Nat → Int → Int → Int → Int → Int → qM → Option (qM))) (x0 : Nat) (x1 : Nat) (x2 : Int) (x3 : Int) (x5 : Int) (x6 : Int) (s0 : Int) (s1 : Int) (m0 : qM) : Option (qM) :=
  ckI (s0 + s1) fun v1 =>
  f_X1_consider_96 N G k21 x0 x1 x2 x3 v1 x5 x6 m0
def f_X1_consider_21 (N : Nat) (G : qG) (k21 : (Nat → Nat → Int → Int → Int → Int → Int → qM → Option (qM))) (x0 : Nat) (x1 : Nat) (x2 : Int) (x3 : Int) (x4 : Int) (x5 : Int) (x6 : Int) (m0 : qM) : Option (qM) :=
  if x6 < (gI m0 1 x1) then (
    rdQ (gK G) 5 m0 (gR G 0 x1) x6 60 fun o12 =>
    if (gI m0 402 o12) = 0 then (
      if (gI m0 403 o12) < x2 then (
        f_X1_consider_67 N G k21 x0 x1 x2 x3 x5 x6 x4 0 m0)
      else (
        f_X1_consider_67 N G k21 x0 x1 x2 x3 x5 x6 x4 (gI m0 404 o12) m0))
    else (
      if x2 < (gI m0 403 o12) then (
        f_X1_consider_93 N G k21 x0 x1 x2 x3 x4 x6 x5 0 m0)
      else (
        f_X1_consider_93 N G k21 x0 x1 x2 x3 x4 x6 x5 (gI m0 404 o12) m0)))
  else (
    kp (min x4 x5) fun v2 =>
    if 0 < v2 then (
      ckI (x4 - x5) fun v4 =>
      kb2 (f_X1_isPreferred N G x0 x2 v2 v4 x3 m0) fun v6 m5 =>
      if v6 = 0 then (
        some m5)
      else (
        kp (sI m5 100 x0 x2) fun m8 =>
        kp (sI m8 101 x0 v2) fun m9 =>
        ckI (x4 - x5) fun v10 =>
        kp (sI m9 102 x0 v10) fun m11 =>
        some m11))
    else (
      some m0))
def f_X1_consider_L21 (N : Nat) (G : qG)  (x0 : Nat) (x1 : Nat) (x2 : Int) (x3 : Int) (x4 : Int) (x5 : Int) (x6 : Int) (m0 : qM) : Option (qM) :=
  qLoop (fun k p => f_X1_consider_21 N G (fun x0 x1 x2 x3 x4 x5 x6 m0 => k (x0, x1, x2, x3, x4, x5, x6, m0)) p.1 p.2.1 p.2.2.1 p.2.2.2.1 p.2.2.2.2.1 p.2.2.2.2.2.1 p.2.2.2.2.2.2.1 p.2.2.2.2.2.2.2) N (x0, x1, x2, x3, x4, x5, x6, m0)
def f_X1_consider (N : Nat) (G : qG)  (x0 : Nat) (x1 : Nat) (x2 : Int) (x3 : Int) (m0 : qM) : Option (qM) :=
  if x2 < 1 then (
    some m0)
  else (
    if 9999999 < x2 then (
      some m0)
    else (
      f_X1_consider_L21 N G  x0 x1 x2 x3 0 0 0 m0))
-- ProRataMarket$Clearing.seek
def f_X1_seek_24 (N : Nat) (G : qG) (k24 : (Nat → Nat → Int → Int → qM → Option (qM))) (x0 : Nat) (x1 : Nat) (x2 : Int) (x3 : Int) (m0 : qM) : Option (qM) :=
  if x3 < (gI m0 1 x1) then (
    rdQ (gK G) 5 m0 (gR G 0 x1) x3 60 fun o2 =>
    ckI ((gI m0 403 o2) - 1) fun v3 =>
    kb (f_X1_consider N G x0 x1 v3 x2 m0) fun m4 =>
    kb (f_X1_consider N G x0 x1 (gI m0 403 o2) x2 m4) fun m6 =>
    ckI ((gI m0 403 o2) + 1) fun v8 =>
    kb (f_X1_consider N G x0 x1 v8 x2 m6) fun m9 =>
    ckI (x3 + 1) fun v11 =>
    k24 x0 x1 x2 v11 m9)
  else (
    some m0)
def f_X1_seek_L24 (N : Nat) (G : qG)  (x0 : Nat) (x1 : Nat) (x2 : Int) (x3 : Int) (m0 : qM) : Option (qM) :=
  qLoop (fun k p => f_X1_seek_24 N G (fun x0 x1 x2 x3 m0 => k (x0, x1, x2, x3, m0)) p.1 p.2.1 p.2.2.1 p.2.2.2.1 p.2.2.2.2) N (x0, x1, x2, x3, m0)
def f_X1_seek (N : Nat) (G : qG)  (x0 : Nat) (x1 : Nat) (x2 : Int) (m0 : qM) : Option (qM) :=
  kp (sI m0 100 x0 0) fun m1 =>
  kp (sI m1 101 x0 0) fun m2 =>
  kp (sI m2 102 x0 0) fun m3 =>
  kb (f_X1_consider N G x0 x1 x2 x2 m3) fun m4 =>
  f_X1_seek_L24 N G  x0 x1 x2 0 m4
-- ProRataMarket$Sharing.put
def f_X5_put (N : Nat) (G : qG)  (x0 : Nat) (x1 : Nat) (x2 : Int) (x3 : Int) (m0 : qM) : Option (qM) :=
  if (gI m0 506 x0) < 68 then (
    wrQ m0 (gR G 500 x0) (gI m0 506 x0) 68 x1 fun m2 =>
    wrA m2 (gR G 501 x0) (gI m2 506 x0) 68 x2 fun m3 =>
    wrA m3 (gR G 502 x0) (gI m3 506 x0) 68 x3 fun m4 =>
    ckI ((gI m4 506 x0) + 1) fun v5 =>
    kp (sI m4 506 x0 v5) fun m6 =>
    ckI ((gI m6 507 x0) + x2) fun v7 =>
    kp (sI m6 507 x0 v7) fun m8 =>
    some m8)
  else (
    some m0)
-- ProRataMarket$Sharing.load
def f_X5_load_59 (N : Nat) (G : qG) (k13 : (Nat → Nat → Int → Int → Int → qM → Option (qM))) (x0 : Nat) (x1 : Nat) (x2 : Int) (x3 : Int) (x4 : Int) (m0 : qM) : Option (qM) :=
  ckI (x4 + 1) fun v1 =>
  k13 x0 x1 x2 x3 v1 m0
def f_X5_load_13 (N : Nat) (G : qG) (k13 : (Nat → Nat → Int → Int → Int → qM → Option (qM))) (x0 : Nat) (x1 : Nat) (x2 : Int) (x3 : Int) (x4 : Int) (m0 : qM) : Option (qM) :=
  if x4 < (gI m0 1 x1) then (
    kb2 (f_X0_isAt N G x1 x4 x2 x3 m0) fun v3 m2 =>
    if v3 = 0 then (
      f_X5_load_59 N G k13 x0 x1 x2 x3 x4 m2)
    else (
      rdQ (gK G) 5 m2 (gR G 0 x1) x4 60 fun o5 =>
      kb2 (f_X0_grantOf N G x1 o5 m2) fun v7 m6 =>
      kb (f_X5_put N G x0 o5 (gI m2 404 o5) v7 m6) fun m8 =>
      f_X5_load_59 N G k13 x0 x1 x2 x3 x4 m8))
  else (
    some m0)
def f_X5_load_L13 (N : Nat) (G : qG)  (x0 : Nat) (x1 : Nat) (x2 : Int) (x3 : Int) (x4 : Int) (m0 : qM) : Option (qM) :=
  qLoop (fun k p => f_X5_load_13 N G (fun x0 x1 x2 x3 x4 m0 => k (x0, x1, x2, x3, x4, m0)) p.1 p.2.1 p.2.2.1 p.2.2.2.1 p.2.2.2.2.1 p.2.2.2.2.2) N (x0, x1, x2, x3, x4, m0)
def f_X5_load (N : Nat) (G : qG)  (x0 : Nat) (x1 : Nat) (x2 : Int) (x3 : Int) (m0 : qM) : Option (qM) :=
  kp (sI m0 506 x0 0) fun m1 =>
  kp (sI m1 507 x0 0) fun m2 =>
  f_X5_load_L13 N G  x0 x1 x2 x3 0 m2
-- ProRataMarket$Ledger.keep
def f_X3_keep (N : Nat) (G : qG)  (x0 : Nat) (x1 : Int) (x2 : Int) (x3 : Int) (x4 : Int) (x5 : Int) (m0 : qM) : Option (qM) :=
  rdQ (gK G) 1005 m0 (gR G 300 x0) (gI m0 302 x0) 60 fun o1 =>
  kp (sA m0 o1 0 x1) fun m2 =>
  kp (sA m2 o1 1 x2) fun m3 =>
  kp (sA m3 o1 2 x3) fun m4 =>
  kp (sA m4 o1 3 x4) fun m5 =>
  kp (sA m5 o1 4 x5) fun m6 =>
  ckI ((gI m6 302 x0) + 1) fun v7 =>
  ckD 60 <| ckI (v7 - v7.tdiv 60 * 60) fun v8 =>
  kp (sI m6 302 x0 v8) fun m9 =>
  ckI ((gI m9 301 x0) + 1) fun v10 =>
  kp (min v10 60) fun v11 =>
  kp (sI m9 301 x0 v11) fun m12 =>
  kp (sI m12 303 x0 x3) fun m13 =>
  some m13
-- ProRataMarket$Ledger.enter
def f_X3_enter_12 (N : Nat) (G : qG)  (x0 : Nat) (x1 : Int) (x3 : Int) (s0 : Int) (m0 : qM) : Option (qM) :=
  rdA m0 (gR G 305 x0) x1 10 fun v1 =>
  kp (w32 (v1 + s0)) fun v2 =>
  wrA m0 (gR G 305 x0) x1 10 v2 fun m3 =>
  rdA m3 (gR G 306 x0) x1 10 fun v4 =>
  ckJ (x3 * s0) fun v5 =>
  kp (w64 (v4 - v5)) fun v6 =>
  wrA m3 (gR G 306 x0) x1 10 v6 fun m7 =>
  some m7
def f_X3_enter (N : Nat) (G : qG)  (x0 : Nat) (x1 : Int) (x2 : Int) (x3 : Int) (x4 : Int) (m0 : qM) : Option (qM) :=
  if x2 = 0 then (
    f_X3_enter_12 N G  x0 x1 x3 x4 m0)
  else (
    ckI (-x4) fun v2 =>
    f_X3_enter_12 N G  x0 x1 x3 v2 m0)
-- ProRataMarket$Floor.tradeRows
def f_X2_tradeRows_115 (N : Nat) (G : qG) (k3 : (Nat → Nat → Int → Int → Int → Int → qM → Option (qM))) (x0 : Nat) (x1 : Nat) (x2 : Int) (x3 : Int) (x4 : Int) (x5 : Int) (m0 : qM) : Option (qM) :=
  ckI (x5 + 1) fun v1 =>
  k3 x0 x1 x2 x3 x4 v1 m0
def f_X2_tradeRows_73 (N : Nat) (G : qG) (k3 : (Nat → Nat → Int → Int → Int → Int → qM → Option (qM))) (x0 : Nat) (x1 : Nat) (x2 : Int) (x3 : Int) (x4 : Int) (x5 : Int) (x6 : Nat) (m0 : qM) : Option (qM) :=
  rdA m0 x1 x5 68 fun v1 =>
  kb (f_X3_keep N G (gR G 201 x0) (gI m0 400 x6) x2 x3 v1 x4 m0) fun m2 =>
  rdA m2 x1 x5 68 fun v4 =>
  kb (f_X3_enter N G (gR G 201 x0) (gI m2 401 x6) (gI m2 402 x6) x3 v4 m2) fun m5 =>
  f_X2_tradeRows_115 N G k3 x0 x1 x2 x3 x4 x5 m5
def f_X2_tradeRows_3 (N : Nat) (G : qG) (k3 : (Nat → Nat → Int → Int → Int → Int → qM → Option (qM))) (x0 : Nat) (x1 : Nat) (x2 : Int) (x3 : Int) (x4 : Int) (x5 : Int) (m0 : qM) : Option (qM) :=
  if x5 < (gI m0 506 (gR G 202 x0)) then (
    if x5 < 68 then (
      rdA m0 x1 x5 68 fun v3 =>
      if 0 < v3 then (
        rdQ (gK G) 5 m0 (gR G 500 (gR G 202 x0)) x5 68 fun o5 =>
        rdA m0 x1 x5 68 fun v6 =>
        ckI ((gI m0 404 o5) - v6) fun v7 =>
        kp (sI m0 404 o5 v7) fun m8 =>
        if x4 = 0 then (
          rdA m8 x1 x5 68 fun v10 =>
          kb (f_X0_useGrant N G (gR G 200 x0) o5 v10 m8) fun m11 =>
          f_X2_tradeRows_73 N G k3 x0 x1 x2 x3 x4 x5 o5 m11)
        else (
          f_X2_tradeRows_73 N G k3 x0 x1 x2 x3 x4 x5 o5 m8))
      else (
        f_X2_tradeRows_115 N G k3 x0 x1 x2 x3 x4 x5 m0))
    else (
      some m0))
  else (
    some m0)
def f_X2_tradeRows_L3 (N : Nat) (G : qG)  (x0 : Nat) (x1 : Nat) (x2 : Int) (x3 : Int) (x4 : Int) (x5 : Int) (m0 : qM) : Option (qM) :=
  qLoop (fun k p => f_X2_tradeRows_3 N G (fun x0 x1 x2 x3 x4 x5 m0 => k (x0, x1, x2, x3, x4, x5, m0)) p.1 p.2.1 p.2.2.1 p.2.2.2.1 p.2.2.2.2.1 p.2.2.2.2.2.1 p.2.2.2.2.2.2) N (x0, x1, x2, x3, x4, x5, m0)
def f_X2_tradeRows (N : Nat) (G : qG)  (x0 : Nat) (x1 : Nat) (x2 : Int) (x3 : Int) (x4 : Int) (m0 : qM) : Option (qM) :=
  f_X2_tradeRows_L3 N G  x0 x1 x2 x3 x4 0 m0
-- ProRataMarket$Sharing.portion
def f_X5_portion (N : Nat) (G : qG)  (x0 : Int) (x1 : Int) (x2 : Int) (x3 : Int) (m0 : qM) : Option (Int × qM) :=
  if 0 < x2 then (
    ckI (x0 * x1) fun v2 =>
    ckD x2 <| ckI (v2.tdiv x2) fun v3 =>
    if v3 < x3 then (
      some (0, m0))
    else (
      some (v3, m0)))
  else (
    some (0, m0))
-- ProRataMarket$Sharing.deal
def f_X5_deal_145 (N : Nat) (G : qG) (k145 : (Nat → Int → Int → qM → Option (qM))) (x0 : Nat) (x3 : Int) (x6 : Int) (m0 : qM) : Option (qM) :=
  if x6 < (gI m0 506 x0) then (
    rdA m0 (gR G 501 x0) x6 68 fun v2 =>
    rdA m0 (gR G 503 x0) x6 68 fun v3 =>
    ckI (v2 - v3) fun v4 =>
    rdA m0 (gR G 504 x0) x6 68 fun v5 =>
    ckI (v4 - v5) fun v6 =>
    kp (min x3 v6) fun v7 =>
    wrA m0 (gR G 505 x0) x6 68 v7 fun m8 =>
    rdA m8 (gR G 505 x0) x6 68 fun v9 =>
    ckI (x3 - v9) fun v10 =>
    ckI (x6 + 1) fun v11 =>
    k145 x0 v10 v11 m8)
  else (
    some m0)
def f_X5_deal_L145 (N : Nat) (G : qG)  (x0 : Nat) (x3 : Int) (x6 : Int) (m0 : qM) : Option (qM) :=
  qLoop (fun k p => f_X5_deal_145 N G (fun x0 x3 x6 m0 => k (x0, x3, x6, m0)) p.1 p.2.1 p.2.2.1 p.2.2.2) N (x0, x3, x6, m0)
def f_X5_deal_87 (N : Nat) (G : qG) (k87 : (Nat → Int → Int → Int → Int → Int → qM → Option (qM))) (x0 : Nat) (x2 : Int) (x3 : Int) (x4 : Int) (x5 : Int) (x6 : Int) (m0 : qM) : Option (qM) :=
  if x6 < (gI m0 506 x0) then (
    rdA m0 (gR G 501 x0) x6 68 fun v2 =>
    rdA m0 (gR G 503 x0) x6 68 fun v3 =>
    ckI (v2 - v3) fun v4 =>
    kb2 (f_X5_portion N G x5 v4 x4 x2 m0) fun v6 m5 =>
    wrA m5 (gR G 504 x0) x6 68 v6 fun m7 =>
    rdA m7 (gR G 504 x0) x6 68 fun v8 =>
    ckI (x3 - v8) fun v9 =>
    ckI (x6 + 1) fun v10 =>
    k87 x0 x2 v9 x4 x5 v10 m7)
  else (
    f_X5_deal_L145 N G  x0 x3 0 m0)
def f_X5_deal_L87 (N : Nat) (G : qG)  (x0 : Nat) (x2 : Int) (x3 : Int) (x4 : Int) (x5 : Int) (x6 : Int) (m0 : qM) : Option (qM) :=
  qLoop (fun k p => f_X5_deal_87 N G (fun x0 x2 x3 x4 x5 x6 m0 => k (x0, x2, x3, x4, x5, x6, m0)) p.1 p.2.1 p.2.2.1 p.2.2.2.1 p.2.2.2.2.1 p.2.2.2.2.2.1 p.2.2.2.2.2.2) N (x0, x2, x3, x4, x5, x6, m0)
def f_X5_deal_8 (N : Nat) (G : qG) (k8 : (Nat → Int → Int → Int → Int → qM → Option (qM))) (x0 : Nat) (x2 : Int) (x3 : Int) (x4 : Int) (x5 : Int) (m0 : qM) : Option (qM) :=
  if x5 < (gI m0 506 x0) then (
    rdA m0 (gR G 501 x0) x5 68 fun v2 =>
    rdA m0 (gR G 502 x0) x5 68 fun v3 =>
    kp (min v2 v3) fun v4 =>
    kp (min x3 v4) fun v5 =>
    wrA m0 (gR G 503 x0) x5 68 v5 fun m6 =>
    rdA m6 (gR G 503 x0) x5 68 fun v7 =>
    ckI (x3 - v7) fun v8 =>
    rdA m6 (gR G 501 x0) x5 68 fun v9 =>
    rdA m6 (gR G 503 x0) x5 68 fun v10 =>
    ckI (v9 - v10) fun v11 =>
    ckI (x4 + v11) fun v12 =>
    ckI (x5 + 1) fun v13 =>
    k8 x0 x2 v8 v12 v13 m6)
  else (
    f_X5_deal_L87 N G  x0 x2 x3 x4 x3 0 m0)
def f_X5_deal_L8 (N : Nat) (G : qG)  (x0 : Nat) (x2 : Int) (x3 : Int) (x4 : Int) (x5 : Int) (m0 : qM) : Option (qM) :=
  qLoop (fun k p => f_X5_deal_8 N G (fun x0 x2 x3 x4 x5 m0 => k (x0, x2, x3, x4, x5, m0)) p.1 p.2.1 p.2.2.1 p.2.2.2.1 p.2.2.2.2.1 p.2.2.2.2.2) N (x0, x2, x3, x4, x5, m0)
def f_X5_deal (N : Nat) (G : qG)  (x0 : Nat) (x1 : Int) (x2 : Int) (m0 : qM) : Option (qM) :=
  f_X5_deal_L8 N G  x0 x2 x1 0 0 m0
-- ProRataMarket$Floor.tradeSide
def f_X2_tradeSide_134 (N : Nat) (G : qG) (k20 : (Nat → Int → Int → Int → Int → qM → Option (qM))) (x0 : Nat) (x1 : Int) (x2 : Int) (x3 : Int) (x4 : Int) (m0 : qM) : Option (qM) :=
  kp (min x2 (gI m0 507 (gR G 202 x0))) fun v1 =>
  ckI (x2 - v1) fun v2 =>
  kb2 (f_X0_nextPrice N G (gR G 200 x0) x1 x3 m0) fun v4 m3 =>
  ckI (x4 + 1) fun v5 =>
  k20 x0 x1 v2 v4 v5 m3
def f_X2_tradeSide_20 (N : Nat) (G : qG) (k20 : (Nat → Int → Int → Int → Int → qM → Option (qM))) (x0 : Nat) (x1 : Int) (x2 : Int) (x3 : Int) (x4 : Int) (m0 : qM) : Option (qM) :=
  if x4 < 60 then (
    if 0 < x2 then (
      if 0 < x3 then (
        kb (f_X5_load N G (gR G 202 x0) (gR G 200 x0) x1 x3 m0) fun m4 =>
        if x2 < (gI m4 507 (gR G 202 x0)) then (
          kb (f_X5_deal N G (gR G 202 x0) x2 (gI m4 206 x0) m4) fun m7 =>
          kb (f_X2_tradeRows N G x0 (gR G 504 (gR G 202 x0)) 0 (gI m7 100 (gR G 203 x0)) 1 m7) fun m9 =>
          kb (f_X2_tradeRows N G x0 (gR G 505 (gR G 202 x0)) 0 (gI m9 100 (gR G 203 x0)) 2 m9) fun m11 =>
          f_X2_tradeSide_134 N G k20 x0 x1 x2 x3 x4 m11)
        else (
          kb (f_X2_tradeRows N G x0 (gR G 501 (gR G 202 x0)) 0 (gI m4 100 (gR G 203 x0)) 3 m4) fun m13 =>
          f_X2_tradeSide_134 N G k20 x0 x1 x2 x3 x4 m13))
      else (
        some m0))
    else (
      some m0))
  else (
    some m0)
def f_X2_tradeSide_L20 (N : Nat) (G : qG)  (x0 : Nat) (x1 : Int) (x2 : Int) (x3 : Int) (x4 : Int) (m0 : qM) : Option (qM) :=
  qLoop (fun k p => f_X2_tradeSide_20 N G (fun x0 x1 x2 x3 x4 m0 => k (x0, x1, x2, x3, x4, m0)) p.1 p.2.1 p.2.2.1 p.2.2.2.1 p.2.2.2.2.1 p.2.2.2.2.2) N (x0, x1, x2, x3, x4, m0)
def f_X2_tradeSide (N : Nat) (G : qG)  (x0 : Nat) (x1 : Int) (m0 : qM) : Option (qM) :=
  kb2 (f_X0_best N G (gR G 200 x0) x1 m0) fun v2 m1 =>
  f_X2_tradeSide_L20 N G  x0 x1 (gI m0 101 (gR G 203 x0)) v2 0 m1
-- ProRataMarket$Floor.changeOver
def f_X2_changeOver (N : Nat) (G : qG)  (x0 : Nat) (m0 : qM) : Option (Int × qM) :=
  kp (sI m0 207 x0 0) fun m1 =>
  kb (f_X1_seek N G (gR G 203 x0) (gR G 200 x0) (gI m1 303 (gR G 201 x0)) m1) fun m2 =>
  if 0 < (gI m2 101 (gR G 203 x0)) then (
    kb (f_X2_tradeSide N G x0 0 m2) fun m5 =>
    kb (f_X2_tradeSide N G x0 1 m5) fun m7 =>
    kp (w32 ((gI m7 304 (gR G 201 x0)) + (gI m7 101 (gR G 203 x0)))) fun v9 =>
    kp (sI m7 304 (gR G 201 x0) v9) fun m10 =>
    kb (f_X0_sweep N G (gR G 200 x0) m10) fun m11 =>
    some (gI m11 101 (gR G 203 x0), m11))
  else (
    some (gI m2 101 (gR G 203 x0), m2))
-- ProRataMarket$Floor.loseOwn
def f_X2_loseOwn_9 (N : Nat) (G : qG)  (x0 : Nat) (x1 : Nat) (m0 : qM) : Option (qM) :=
  kp (w32 ((gI m0 210 x0) + (gI m0 404 x1))) fun v1 =>
  kp (sI m0 210 x0 v1) fun m2 =>
  kp (sI m2 404 x1 0) fun m3 =>
  kp (w32 ((gI m3 209 x0) + 1)) fun v4 =>
  kp (sI m3 209 x0 v4) fun m5 =>
  some m5
def f_X2_loseOwn (N : Nat) (G : qG)  (x0 : Nat) (x1 : Nat) (x2 : Int) (m0 : qM) : Option (qM) :=
  if x2 = 0 then (
    f_X2_loseOwn_9 N G  x0 x1 m0)
  else (
    if x2 = 2 then (
      f_X2_loseOwn_9 N G  x0 x1 m0)
    else (
      if x2 = 3 then (
        kp (min (gI m0 404 x1) (gI m0 404 (gR G 204 x0))) fun v4 =>
        ckI ((gI m0 404 x1) - v4) fun v5 =>
        kp (sI m0 404 x1 v5) fun m6 =>
        ckI ((gI m6 404 (gR G 204 x0)) - v4) fun v7 =>
        kp (sI m6 404 (gR G 204 x0) v7) fun m8 =>
        kp (w32 ((gI m8 211 x0) + v4)) fun v9 =>
        kp (sI m8 211 x0 v9) fun m10 =>
        if (gI m10 404 x1) = 0 then (
          kp (w32 ((gI m10 209 x0) + 1)) fun v14 =>
          kp (sI m10 209 x0 v14) fun m15 =>
          some m15)
        else (
          kp (w32 ((gI m10 209 x0) + 0)) fun v12 =>
          kp (sI m10 209 x0 v12) fun m13 =>
          some m13))
      else (
        some m0)))
-- ProRataMarket$Floor.preventSelf
def f_X2_preventSelf_98 (N : Nat) (G : qG)  (x0 : Nat) (m0 : qM) : Option (qM) :=
  kb (f_X0_sweep N G (gR G 200 x0) m0) fun m1 =>
  some m1
def f_X2_preventSelf_90 (N : Nat) (G : qG)  (x0 : Nat) (m0 : qM) : Option (qM) :=
  kp (sI m0 404 (gR G 204 x0) 0) fun m1 =>
  f_X2_preventSelf_98 N G  x0 m1
def f_X2_preventSelf_69 (N : Nat) (G : qG) (k6 : (Nat → Int → Int → Int → Int → Int → qM → Option (qM))) (x0 : Nat) (x1 : Int) (x2 : Int) (x3 : Int) (x4 : Int) (x5 : Int) (m0 : qM) : Option (qM) :=
  ckI (x5 + 1) fun v1 =>
  k6 x0 x1 x2 x3 x4 v1 m0
def f_X2_preventSelf_6 (N : Nat) (G : qG) (k6 : (Nat → Int → Int → Int → Int → Int → qM → Option (qM))) (x0 : Nat) (x1 : Int) (x2 : Int) (x3 : Int) (x4 : Int) (x5 : Int) (m0 : qM) : Option (qM) :=
  if x5 < (gI m0 1 (gR G 200 x0)) then (
    rdQ (gK G) 5 m0 (gR G 0 (gR G 200 x0)) x5 60 fun o5 =>
    kb2 (f_X0_isAt N G (gR G 200 x0) x5 x1 x2 m0) fun v7 m6 =>
    if v7 = 0 then (
      f_X2_preventSelf_69 N G k6 x0 x1 x2 x3 x4 x5 m6)
    else (
      if (gI m6 401 o5) = (gI m6 401 (gR G 204 x0)) then (
        kb (f_X2_loseOwn N G x0 o5 x3 m6) fun m10 =>
        f_X2_preventSelf_69 N G k6 x0 x1 x2 x3 1 x5 m10)
      else (
        f_X2_preventSelf_69 N G k6 x0 x1 x2 x3 x4 x5 m6)))
  else (
    if x4 = 0 then (
      f_X2_preventSelf_98 N G  x0 m0)
    else (
      if x3 = 1 then (
        f_X2_preventSelf_90 N G  x0 m0)
      else (
        if x3 = 2 then (
          f_X2_preventSelf_90 N G  x0 m0)
        else (
          f_X2_preventSelf_98 N G  x0 m0))))
def f_X2_preventSelf_L6 (N : Nat) (G : qG)  (x0 : Nat) (x1 : Int) (x2 : Int) (x3 : Int) (x4 : Int) (x5 : Int) (m0 : qM) : Option (qM) :=
  qLoop (fun k p => f_X2_preventSelf_6 N G (fun x0 x1 x2 x3 x4 x5 m0 => k (x0, x1, x2, x3, x4, x5, m0)) p.1 p.2.1 p.2.2.1 p.2.2.2.1 p.2.2.2.2.1 p.2.2.2.2.2.1 p.2.2.2.2.2.2) N (x0, x1, x2, x3, x4, x5, m0)
def f_X2_preventSelf (N : Nat) (G : qG)  (x0 : Nat) (x1 : Int) (x2 : Int) (x3 : Int) (m0 : qM) : Option (qM) :=
  f_X2_preventSelf_L6 N G  x0 x1 x2 x3 0 0 m0
-- ProRataMarket$Floor.takeAt
def f_X2_takeAt (N : Nat) (G : qG)  (x0 : Nat) (x1 : Int) (x2 : Int) (m0 : qM) : Option (qM) :=
  kb (f_X5_load N G (gR G 202 x0) (gR G 200 x0) x1 x2 m0) fun m1 =>
  kp (min (gI m1 404 (gR G 204 x0)) (gI m1 507 (gR G 202 x0))) fun v3 =>
  if 0 < v3 then (
    kb (f_X5_deal N G (gR G 202 x0) v3 (gI m1 206 x0) m1) fun m5 =>
    kb (f_X2_tradeRows N G x0 (gR G 503 (gR G 202 x0)) (gI m5 400 (gR G 204 x0)) x2 0 m5) fun m7 =>
    kb (f_X2_tradeRows N G x0 (gR G 504 (gR G 202 x0)) (gI m7 400 (gR G 204 x0)) x2 1 m7) fun m9 =>
    kb (f_X2_tradeRows N G x0 (gR G 505 (gR G 202 x0)) (gI m9 400 (gR G 204 x0)) x2 2 m9) fun m11 =>
    kb (f_X3_enter N G (gR G 201 x0) (gI m11 401 (gR G 204 x0)) (gI m11 402 (gR G 204 x0)) x2 v3 m11) fun m13 =>
    kp (w32 ((gI m13 304 (gR G 201 x0)) + v3)) fun v15 =>
    kp (sI m13 304 (gR G 201 x0) v15) fun m16 =>
    ckI ((gI m16 404 (gR G 204 x0)) - v3) fun v17 =>
    kp (sI m16 404 (gR G 204 x0) v17) fun m18 =>
    kb (f_X0_sweep N G (gR G 200 x0) m18) fun m19 =>
    some m19)
  else (
    some m1)
-- ProRataMarket$Floor.meet
def f_X2_meet_91 (N : Nat) (G : qG) (k18 : (Nat → Int → Int → Int → qM → Option (qM))) (x0 : Nat) (x1 : Int) (x2 : Int) (x3 : Int) (m0 : qM) : Option (qM) :=
  ckI (x3 + 1) fun v1 =>
  k18 x0 x1 x2 v1 m0
def f_X2_meet_18 (N : Nat) (G : qG) (k18 : (Nat → Int → Int → Int → qM → Option (qM))) (x0 : Nat) (x1 : Int) (x2 : Int) (x3 : Int) (m0 : qM) : Option (qM) :=
  if x3 < 60 then (
    if 0 < (gI m0 404 (gR G 204 x0)) then (
      kb2 (f_X0_best N G (gR G 200 x0) x2 m0) fun v4 m3 =>
      if v4 = 0 then (
        some m3)
      else (
        kb2 (f_X7_isBetter N G x2 (gI m3 403 (gR G 204 x0)) v4 m3) fun v7 m6 =>
        if v7 = 0 then (
          kb (f_X2_preventSelf N G x0 x2 v4 x1 m6) fun m9 =>
          if 0 < (gI m9 404 (gR G 204 x0)) then (
            kb (f_X2_takeAt N G x0 x2 v4 m9) fun m12 =>
            f_X2_meet_91 N G k18 x0 x1 x2 x3 m12)
          else (
            f_X2_meet_91 N G k18 x0 x1 x2 x3 m9))
        else (
          some m6)))
    else (
      some m0))
  else (
    some m0)
def f_X2_meet_L18 (N : Nat) (G : qG)  (x0 : Nat) (x1 : Int) (x2 : Int) (x3 : Int) (m0 : qM) : Option (qM) :=
  qLoop (fun k p => f_X2_meet_18 N G (fun x0 x1 x2 x3 m0 => k (x0, x1, x2, x3, m0)) p.1 p.2.1 p.2.2.1 p.2.2.2.1 p.2.2.2.2) N (x0, x1, x2, x3, m0)
def f_X2_meet_15 (N : Nat) (G : qG)  (x0 : Nat) (x1 : Int) (s0 : Int) (m0 : qM) : Option (qM) :=
  f_X2_meet_L18 N G  x0 x1 s0 0 m0
def f_X2_meet (N : Nat) (G : qG)  (x0 : Nat) (x1 : Int) (m0 : qM) : Option (qM) :=
  if (gI m0 402 (gR G 204 x0)) = 0 then (
    f_X2_meet_15 N G  x0 x1 1 m0)
  else (
    f_X2_meet_15 N G  x0 x1 0 m0)
-- ProRataMarket$Floor.restComing
def f_X2_restComing_45 (N : Nat) (G : qG)  (x0 : Nat) (s0 : Int) (m0 : qM) : Option (qM) :=
  kb (f_X0_add N G (gR G 200 x0) (gR G 204 x0) m0) fun m1 =>
  if (gI m1 207 x0) = 0 then (
    if s0 = 0 then (
      some m1)
    else (
      if (gI m1 404 (gR G 204 x0)) = (gI m1 405 (gR G 204 x0)) then (
        if 0 < (gI m1 205 x0) then (
          kb (f_X0_makeTop N G (gR G 200 x0) (gR G 204 x0) (gI m1 205 x0) m1) fun m7 =>
          some m7)
        else (
          some m1))
      else (
        some m1)))
  else (
    some m1)
def f_X2_restComing_40 (N : Nat) (G : qG)  (x0 : Nat) (m0 : qM) : Option (qM) :=
  f_X2_restComing_45 N G  x0 1 m0
def f_X2_restComing (N : Nat) (G : qG)  (x0 : Nat) (m0 : qM) : Option (qM) :=
  kb2 (f_X0_best N G (gR G 200 x0) (gI m0 402 (gR G 204 x0)) m0) fun v2 m1 =>
  if v2 = 0 then (
    f_X2_restComing_40 N G  x0 m1)
  else (
    kb2 (f_X7_isBetter N G (gI m1 402 (gR G 204 x0)) (gI m1 403 (gR G 204 x0)) v2 m1) fun v5 m4 =>
    if v5 = 0 then (
      f_X2_restComing_45 N G  x0 0 m4)
    else (
      f_X2_restComing_40 N G  x0 m4))
-- ProRataMarket$Floor.comeIn
def f_X2_comeIn_77 (N : Nat) (G : qG)  (x0 : Nat) (m0 : qM) : Option (Int × qM) :=
  if 0 < (gI m0 404 (gR G 204 x0)) then (
    kb (f_X2_restComing N G x0 m0) fun m2 =>
    some (gI m2 208 x0, m2))
  else (
    some (gI m0 208 x0, m0))
def f_X2_comeIn_59 (N : Nat) (G : qG)  (x0 : Nat) (m0 : qM) : Option (Int × qM) :=
  kb2 (f_X0_isFull N G (gR G 200 x0) m0) fun v2 m1 =>
  if v2 = 0 then (
    f_X2_comeIn_77 N G  x0 m1)
  else (
    kp (sI m1 404 (gR G 204 x0) 0) fun m4 =>
    f_X2_comeIn_77 N G  x0 m4)
def f_X2_comeIn_20 (N : Nat) (G : qG)  (x0 : Nat) (x1 : Int) (x2 : Int) (x3 : Int) (x4 : Int) (x5 : Int) (m0 : qM) : Option (Int × qM) :=
  ckI ((gI m0 208 x0) + 1) fun v1 =>
  kp (sI m0 208 x0 v1) fun m2 =>
  kb (f_X4_become N G (gR G 204 x0) (gI m2 208 x0) x1 x2 x3 x4 m2) fun m3 =>
  if (gI m3 207 x0) = 0 then (
    kb (f_X2_meet N G x0 x5 m3) fun m6 =>
    f_X2_comeIn_59 N G  x0 m6)
  else (
    f_X2_comeIn_59 N G  x0 m3)
def f_X2_comeIn (N : Nat) (G : qG)  (x0 : Nat) (x1 : Int) (x2 : Int) (x3 : Int) (x4 : Int) (x5 : Int) (m0 : qM) : Option (Int × qM) :=
  if (gI m0 207 x0) = 0 then (
    f_X2_comeIn_20 N G  x0 x1 x2 x3 x4 x5 m0)
  else (
    kb2 (f_X0_isFull N G (gR G 200 x0) m0) fun v3 m2 =>
    if v3 = 0 then (
      f_X2_comeIn_20 N G  x0 x1 x2 x3 x4 x5 m2)
    else (
      some ((-3), m2)))
-- ProRataMarket$Ledger.clear
def f_X3_clear_22 (N : Nat) (G : qG) (k22 : (Nat → Int → qM → Option (qM))) (x0 : Nat) (x1 : Int) (m0 : qM) : Option (qM) :=
  if x1 < 10 then (
    wrA m0 (gR G 305 x0) x1 10 0 fun m2 =>
    wrA m2 (gR G 306 x0) x1 10 0 fun m3 =>
    ckI (x1 + 1) fun v4 =>
    k22 x0 v4 m3)
  else (
    some m0)
def f_X3_clear_L22 (N : Nat) (G : qG)  (x0 : Nat) (x1 : Int) (m0 : qM) : Option (qM) :=
  qLoop (fun k p => f_X3_clear_22 N G (fun x0 x1 m0 => k (x0, x1, m0)) p.1 p.2.1 p.2.2) N (x0, x1, m0)
def f_X3_clear (N : Nat) (G : qG)  (x0 : Nat) (m0 : qM) : Option (qM) :=
  kp (sI m0 301 x0 0) fun m1 =>
  kp (sI m1 302 x0 0) fun m2 =>
  kp (sI m2 303 x0 0) fun m3 =>
  kp (sI m3 304 x0 0) fun m4 =>
  f_X3_clear_L22 N G  x0 0 m4
-- ProRataMarket$Floor.prepareTrial
def f_X2_prepareTrial (N : Nat) (G : qG)  (x0 : Nat) (x1 : Nat) (m0 : qM) : Option (qM) :=
  kb (f_X0_copyFrom N G (gR G 200 x0) (gR G 200 x1) m0) fun m1 =>
  kb (f_X3_clear N G (gR G 201 x0) m1) fun m3 =>
  kp (sI m3 205 x0 (gI m3 205 x1)) fun m5 =>
  kp (sI m5 206 x0 (gI m5 206 x1)) fun m6 =>
  kp (sI m6 207 x0 0) fun m7 =>
  kp (sI m7 208 x0 (gI m7 208 x1)) fun m8 =>
  kp (sI m8 209 x0 0) fun m9 =>
  kp (sI m9 210 x0 0) fun m10 =>
  kp (sI m10 211 x0 0) fun m11 =>
  some m11
-- ProRataMarket$Ledger.told
def f_X3_told (N : Nat) (G : qG)  (x0 : Nat) (x1 : Int) (x2 : Int) (m0 : qM) : Option (Int × qM) :=
  ckI ((gI m0 302 x0) - 1) fun v1 =>
  ckI (v1 - x1) fun v2 =>
  kb2 (f_J9_floorMod_7cf53 N G v2 60 m0) fun v4 m3 =>
  rdQ (gK G) 1005 m3 (gR G 300 x0) v4 60 fun o5 =>
  rdA m3 o5 x2 5 fun v6 =>
  some (v6, m3)
-- ProRataMarket$Sharing.idleStep
def f_X5_idleStep_97 (N : Nat) (G : qG) (k28 : (Nat → Int → Int → Int → Int → Int → Int → Int → Int → qM → Option (Int × qM))) (x0 : Nat) (x1 : Int) (x2 : Int) (x3 : Int) (x4 : Int) (x5 : Int) (x6 : Int) (x8 : Int) (s0 : Int) (s1 : Int) (m0 : qM) : Option (Int × qM) :=
  ckI (s0 + s1) fun v1 =>
  ckI (x8 + 1) fun v2 =>
  k28 x0 x1 x2 x3 x4 x5 x6 v1 v2 m0
def f_X5_idleStep_75 (N : Nat) (G : qG) (k28 : (Nat → Int → Int → Int → Int → Int → Int → Int → Int → qM → Option (Int × qM))) (x0 : Nat) (x1 : Int) (x2 : Int) (x3 : Int) (x4 : Int) (x5 : Int) (x7 : Int) (x8 : Int) (s0 : Int) (s1 : Int) (m0 : qM) : Option (Int × qM) :=
  ckI (s0 + s1) fun v1 =>
  if x1 < x8 then (
    rdA m0 (gR G 504 x0) x8 68 fun v3 =>
    f_X5_idleStep_97 N G k28 x0 x1 x2 x3 x4 x5 v1 x8 x7 v3 m0)
  else (
    f_X5_idleStep_97 N G k28 x0 x1 x2 x3 x4 x5 v1 x8 x7 0 m0)
def f_X5_idleStep_28 (N : Nat) (G : qG) (k28 : (Nat → Int → Int → Int → Int → Int → Int → Int → Int → qM → Option (Int × qM))) (x0 : Nat) (x1 : Int) (x2 : Int) (x3 : Int) (x4 : Int) (x5 : Int) (x6 : Int) (x7 : Int) (x8 : Int) (m0 : qM) : Option (Int × qM) :=
  if x8 < (gI m0 506 x0) then (
    rdA m0 (gR G 501 x0) x8 68 fun v15 =>
    rdA m0 (gR G 503 x0) x8 68 fun v16 =>
    ckI (v15 - v16) fun v17 =>
    ckI (x5 + v17) fun v18 =>
    if x8 < x1 then (
      f_X5_idleStep_75 N G k28 x0 x1 x2 x3 x4 v18 x7 x8 x6 v17 m0)
    else (
      f_X5_idleStep_75 N G k28 x0 x1 x2 x3 x4 v18 x7 x8 x6 0 m0))
  else (
    ckI (x2 - x7) fun v2 =>
    ckI (x6 - v2) fun v3 =>
    if 1 < x3 then (
      some (v3, m0))
    else (
      rdA m0 (gR G 501 x0) x1 68 fun v5 =>
      if 0 < v5 then (
        ckI (x4 * x5) fun v7 =>
        rdA m0 (gR G 501 x0) x1 68 fun v8 =>
        ckI (v7 + v8) fun v9 =>
        ckI (v9 - 1) fun v10 =>
        rdA m0 (gR G 501 x0) x1 68 fun v11 =>
        ckD v11 <| ckI (v10.tdiv v11) fun v12 =>
        ckI (v12 - x2) fun v13 =>
        kp (min v3 v13) fun v14 =>
        some (v14, m0))
      else (
        some (v3, m0))))
def f_X5_idleStep_L28 (N : Nat) (G : qG)  (x0 : Nat) (x1 : Int) (x2 : Int) (x3 : Int) (x4 : Int) (x5 : Int) (x6 : Int) (x7 : Int) (x8 : Int) (m0 : qM) : Option (Int × qM) :=
  qLoop (fun k p => f_X5_idleStep_28 N G (fun x0 x1 x2 x3 x4 x5 x6 x7 x8 m0 => k (x0, x1, x2, x3, x4, x5, x6, x7, x8, m0)) p.1 p.2.1 p.2.2.1 p.2.2.2.1 p.2.2.2.2.1 p.2.2.2.2.2.1 p.2.2.2.2.2.2.1 p.2.2.2.2.2.2.2.1 p.2.2.2.2.2.2.2.2.1 p.2.2.2.2.2.2.2.2.2) N (x0, x1, x2, x3, x4, x5, x6, x7, x8, m0)
def f_X5_idleStep (N : Nat) (G : qG)  (x0 : Nat) (x1 : Int) (x2 : Int) (x3 : Int) (x4 : Int) (m0 : qM) : Option (Int × qM) :=
  rdA m0 (gR G 501 x0) x1 68 fun v1 =>
  rdA m0 (gR G 503 x0) x1 68 fun v2 =>
  ckI (v1 - v2) fun v3 =>
  kp (min x3 v3) fun v4 =>
  f_X5_idleStep_L28 N G  x0 x1 x2 x3 x4 0 v4 0 0 m0
-- ProRataMarket$Sharing.partAt
def f_X5_partAt (N : Nat) (G : qG)  (x0 : Nat) (x1 : Int) (x2 : Int) (m0 : qM) : Option (Int × qM) :=
  if x2 = 1 then (
    rdA m0 (gR G 503 x0) x1 68 fun v2 =>
    some (v2, m0))
  else
  if x2 = 2 then (
    rdA m0 (gR G 504 x0) x1 68 fun v4 =>
    some (v4, m0))
  else
  if x2 = 3 then (
    rdA m0 (gR G 505 x0) x1 68 fun v6 =>
    some (v6, m0))
  else
  rdA m0 (gR G 503 x0) x1 68 fun v7 =>
  rdA m0 (gR G 504 x0) x1 68 fun v8 =>
  ckI (v7 + v8) fun v9 =>
  rdA m0 (gR G 505 x0) x1 68 fun v10 =>
  ckI (v9 + v10) fun v11 =>
  some (v11, m0)
-- ProRataMarket$Sharing.leastTake
def f_X5_leastTake_98 (N : Nat) (G : qG) (k98 : (Nat → Int → Int → Int → Int → Int → qM → Option (Int × qM))) (x0 : Nat) (x2 : Int) (x3 : Int) (x4 : Int) (x5 : Int) (x7 : Int) (m0 : qM) : Option (Int × qM) :=
  if x7 < (gI m0 507 x0) then (
    kb (f_X5_deal N G x0 x7 x3 m0) fun m2 =>
    kb2 (f_X5_partAt N G x0 x4 0 m2) fun v5 m4 =>
    if v5 < x2 then (
      ckI (x7 - x5) fun v7 =>
      kb2 (f_X5_idleStep N G x0 x4 v7 x2 x3 m4) fun v9 m8 =>
      kp (max 1 v9) fun v10 =>
      ckI (x7 + v10) fun v11 =>
      k98 x0 x2 x3 x4 x5 v11 m8)
    else (
      some (x7, m4)))
  else (
    some (gI m0 507 x0, m0))
def f_X5_leastTake_L98 (N : Nat) (G : qG)  (x0 : Nat) (x2 : Int) (x3 : Int) (x4 : Int) (x5 : Int) (x7 : Int) (m0 : qM) : Option (Int × qM) :=
  qLoop (fun k p => f_X5_leastTake_98 N G (fun x0 x2 x3 x4 x5 x7 m0 => k (x0, x2, x3, x4, x5, x7, m0)) p.1 p.2.1 p.2.2.1 p.2.2.2.1 p.2.2.2.2.1 p.2.2.2.2.2.1 p.2.2.2.2.2.2) N (x0, x2, x3, x4, x5, x7, m0)
def f_X5_leastTake_36 (N : Nat) (G : qG) (k9 : (Nat → Nat → Int → Int → Int → Int → Int → qM → Option (Int × qM))) (x0 : Nat) (x1 : Nat) (x2 : Int) (x3 : Int) (x5 : Int) (x6 : Int) (s0 : Int) (m0 : qM) : Option (Int × qM) :=
  rdA m0 (gR G 501 x0) x6 68 fun v1 =>
  rdA m0 (gR G 502 x0) x6 68 fun v2 =>
  kp (min v1 v2) fun v3 =>
  ckI (x5 + v3) fun v4 =>
  ckI (x6 + 1) fun v5 =>
  k9 x0 x1 x2 x3 s0 v4 v5 m0
def f_X5_leastTake_9 (N : Nat) (G : qG) (k9 : (Nat → Nat → Int → Int → Int → Int → Int → qM → Option (Int × qM))) (x0 : Nat) (x1 : Nat) (x2 : Int) (x3 : Int) (x4 : Int) (x5 : Int) (x6 : Int) (m0 : qM) : Option (Int × qM) :=
  if x6 < (gI m0 506 x0) then (
    rdQ (gK G) 5 m0 (gR G 500 x0) x6 68 fun o7 =>
    if o7 = x1 then (
      f_X5_leastTake_36 N G k9 x0 x1 x2 x3 x5 x6 x6 m0)
    else (
      f_X5_leastTake_36 N G k9 x0 x1 x2 x3 x5 x6 x4 m0))
  else (
    rdA m0 (gR G 501 x0) x4 68 fun v2 =>
    rdA m0 (gR G 502 x0) x4 68 fun v3 =>
    kp (min v2 v3) fun v4 =>
    if v4 < x2 then (
      ckI (x5 + 1) fun v6 =>
      f_X5_leastTake_L98 N G  x0 x2 x3 x4 x5 v6 m0)
    else (
      some (x2, m0)))
def f_X5_leastTake_L9 (N : Nat) (G : qG)  (x0 : Nat) (x1 : Nat) (x2 : Int) (x3 : Int) (x4 : Int) (x5 : Int) (x6 : Int) (m0 : qM) : Option (Int × qM) :=
  qLoop (fun k p => f_X5_leastTake_9 N G (fun x0 x1 x2 x3 x4 x5 x6 m0 => k (x0, x1, x2, x3, x4, x5, x6, m0)) p.1 p.2.1 p.2.2.1 p.2.2.2.1 p.2.2.2.2.1 p.2.2.2.2.2.1 p.2.2.2.2.2.2.1 p.2.2.2.2.2.2.2) N (x0, x1, x2, x3, x4, x5, x6, m0)
def f_X5_leastTake (N : Nat) (G : qG)  (x0 : Nat) (x1 : Nat) (x2 : Int) (x3 : Int) (m0 : qM) : Option (Int × qM) :=
  f_X5_leastTake_L9 N G  x0 x1 x2 x3 0 0 0 m0
-- ProRataMarket$Sharing.putParts
def f_X5_putParts_46 (N : Nat) (G : qG) (k24 : (Nat → Nat → Int → Int → Int → Int → qM → Option (qM))) (x0 : Nat) (x1 : Nat) (x2 : Int) (x3 : Int) (x4 : Int) (x5 : Int) (s0 : Nat) (s1 : Nat) (s2 : Int) (m0 : qM) : Option (qM) :=
  kb (f_X5_put N G s0 s1 s2 0 m0) fun m1 =>
  ckI (x5 + 1) fun v3 =>
  k24 x0 x1 x2 x3 x4 v3 m1
def f_X5_putParts_24 (N : Nat) (G : qG) (k24 : (Nat → Nat → Int → Int → Int → Int → qM → Option (qM))) (x0 : Nat) (x1 : Nat) (x2 : Int) (x3 : Int) (x4 : Int) (x5 : Int) (m0 : qM) : Option (qM) :=
  if x5 < x2 then (
    if x5 < x4 then (
      ckI (x3 + 1) fun v3 =>
      f_X5_putParts_46 N G k24 x0 x1 x2 x3 x4 x5 x0 x1 v3 m0)
    else (
      f_X5_putParts_46 N G k24 x0 x1 x2 x3 x4 x5 x0 x1 x3 m0))
  else (
    some m0)
def f_X5_putParts_L24 (N : Nat) (G : qG)  (x0 : Nat) (x1 : Nat) (x2 : Int) (x3 : Int) (x4 : Int) (x5 : Int) (m0 : qM) : Option (qM) :=
  qLoop (fun k p => f_X5_putParts_24 N G (fun x0 x1 x2 x3 x4 x5 m0 => k (x0, x1, x2, x3, x4, x5, m0)) p.1 p.2.1 p.2.2.1 p.2.2.2.1 p.2.2.2.2.1 p.2.2.2.2.2.1 p.2.2.2.2.2.2) N (x0, x1, x2, x3, x4, x5, m0)
def f_X5_putParts (N : Nat) (G : qG)  (x0 : Nat) (x1 : Nat) (x2 : Int) (m0 : qM) : Option (qM) :=
  if x2 < 1 then (
    some m0)
  else (
    ckD x2 <| ckI ((gI m0 404 x1).tdiv x2) fun v2 =>
    ckD x2 <| ckI ((gI m0 404 x1) - (gI m0 404 x1).tdiv x2 * x2) fun v3 =>
    f_X5_putParts_L24 N G  x0 x1 x2 v2 v3 0 m0)
-- ProRataMarket$Sharing.loadInParts
def f_X5_loadInParts_81 (N : Nat) (G : qG) (k13 : (Nat → Nat → Nat → Int → Int → qM → Option (qM))) (x0 : Nat) (x1 : Nat) (x2 : Nat) (x3 : Int) (x4 : Int) (m0 : qM) : Option (qM) :=
  ckI (x4 + 1) fun v1 =>
  k13 x0 x1 x2 x3 v1 m0
def f_X5_loadInParts_13 (N : Nat) (G : qG) (k13 : (Nat → Nat → Nat → Int → Int → qM → Option (qM))) (x0 : Nat) (x1 : Nat) (x2 : Nat) (x3 : Int) (x4 : Int) (m0 : qM) : Option (qM) :=
  if x4 < (gI m0 1 x1) then (
    rdQ (gK G) 5 m0 (gR G 0 x1) x4 60 fun o2 =>
    if o2 = x2 then (
      kb (f_X5_putParts N G x0 o2 x3 m0) fun m11 =>
      f_X5_loadInParts_81 N G k13 x0 x1 x2 x3 x4 m11)
    else (
      kb2 (f_X0_isAt N G x1 x4 (gI m0 402 x2) (gI m0 403 x2) m0) fun v5 m4 =>
      if v5 = 0 then (
        f_X5_loadInParts_81 N G k13 x0 x1 x2 x3 x4 m4)
      else (
        kb2 (f_X0_grantOf N G x1 o2 m4) fun v8 m7 =>
        kb (f_X5_put N G x0 o2 (gI m4 404 o2) v8 m7) fun m9 =>
        f_X5_loadInParts_81 N G k13 x0 x1 x2 x3 x4 m9)))
  else (
    some m0)
def f_X5_loadInParts_L13 (N : Nat) (G : qG)  (x0 : Nat) (x1 : Nat) (x2 : Nat) (x3 : Int) (x4 : Int) (m0 : qM) : Option (qM) :=
  qLoop (fun k p => f_X5_loadInParts_13 N G (fun x0 x1 x2 x3 x4 m0 => k (x0, x1, x2, x3, x4, m0)) p.1 p.2.1 p.2.2.1 p.2.2.2.1 p.2.2.2.2.1 p.2.2.2.2.2) N (x0, x1, x2, x3, x4, m0)
def f_X5_loadInParts (N : Nat) (G : qG)  (x0 : Nat) (x1 : Nat) (x2 : Nat) (x3 : Int) (m0 : qM) : Option (qM) :=
  kp (sI m0 506 x0 0) fun m1 =>
  kp (sI m1 507 x0 0) fun m2 =>
  f_X5_loadInParts_L13 N G  x0 x1 x2 x3 0 m2
-- ProRataMarket$Sharing.partOf
def f_X5_partOf_37 (N : Nat) (G : qG) (k5 : (Nat → Nat → Int → Int → Int → qM → Option (Int × qM))) (x0 : Nat) (x1 : Nat) (x2 : Int) (x4 : Int) (s0 : Int) (s1 : Int) (m0 : qM) : Option (Int × qM) :=
  ckI (s0 + s1) fun v1 =>
  ckI (x4 + 1) fun v2 =>
  k5 x0 x1 x2 v1 v2 m0
def f_X5_partOf_5 (N : Nat) (G : qG) (k5 : (Nat → Nat → Int → Int → Int → qM → Option (Int × qM))) (x0 : Nat) (x1 : Nat) (x2 : Int) (x3 : Int) (x4 : Int) (m0 : qM) : Option (Int × qM) :=
  if x4 < (gI m0 506 x0) then (
    rdQ (gK G) 5 m0 (gR G 500 x0) x4 68 fun o2 =>
    if o2 = x1 then (
      kb2 (f_X5_partAt N G x0 x4 x2 m0) fun v5 m4 =>
      f_X5_partOf_37 N G k5 x0 x1 x2 x4 x3 v5 m4)
    else (
      f_X5_partOf_37 N G k5 x0 x1 x2 x4 x3 0 m0))
  else (
    some (x3, m0))
def f_X5_partOf_L5 (N : Nat) (G : qG)  (x0 : Nat) (x1 : Nat) (x2 : Int) (x3 : Int) (x4 : Int) (m0 : qM) : Option (Int × qM) :=
  qLoop (fun k p => f_X5_partOf_5 N G (fun x0 x1 x2 x3 x4 m0 => k (x0, x1, x2, x3, x4, m0)) p.1 p.2.1 p.2.2.1 p.2.2.2.1 p.2.2.2.2.1 p.2.2.2.2.2) N (x0, x1, x2, x3, x4, m0)
def f_X5_partOf (N : Nat) (G : qG)  (x0 : Nat) (x1 : Nat) (x2 : Int) (m0 : qM) : Option (Int × qM) :=
  f_X5_partOf_L5 N G  x0 x1 x2 0 0 m0
-- ProRataMarket.ahead
def f_X7_ahead (N : Nat) (G : qG)  (x0 : Nat) (x1 : Int) (x2 : Int) (m0 : qM) : Option (Int × qM) :=
  kb2 (f_X0_find N G (gR G 200 (gR G 700 x0)) x1 m0) fun v2 m1 =>
  match v2 with
  | none => (
    some ((-1), m1))
  | some o3 => (
    if x2 < 0 then (
      some ((-1), m1))
    else (
      if 1 < x2 then (
        some ((-1), m1))
      else (
        if x2 = 0 then (
          kb2 (f_X0_earlierSizes N G (gR G 200 (gR G 700 x0)) o3 m1) fun v10 m9 =>
          some (v10, m9))
        else (
          kb2 (f_X0_betterSizes N G (gR G 200 (gR G 700 x0)) o3 m1) fun v8 m7 =>
          some (v8, m7)))))
-- ProRataMarket.call
def f_X7_call (N : Nat) (G : qG)  (x0 : Nat) (m0 : qM) : Option (Int × qM) :=
  if (gI m0 207 (gR G 700 x0)) = 0 then (
    kp (sI m0 207 (gR G 700 x0) 1) fun m2 =>
    kb (f_X0_lapseAll N G (gR G 200 (gR G 700 x0)) m2) fun m3 =>
    some (1, m3))
  else (
    some (0, m0))
-- ProRataMarket.clears
def f_X7_clears (N : Nat) (G : qG)  (x0 : Nat) (x1 : Int) (m0 : qM) : Option (Int × qM) :=
  if x1 < 0 then (
    some ((-1), m0))
  else (
    if 2 < x1 then (
      some ((-1), m0))
    else (
      if (gI m0 207 (gR G 700 x0)) = 0 then (
        some (0, m0))
      else (
        kb (f_X1_seek N G (gR G 203 (gR G 700 x0)) (gR G 200 (gR G 700 x0)) (gI m0 303 (gR G 201 (gR G 700 x0))) m0) fun m4 =>
        if x1 = 0 then (
          some (gI m4 100 (gR G 203 (gR G 700 x0)), m4))
        else
        if x1 = 1 then (
          some (gI m4 101 (gR G 203 (gR G 700 x0)), m4))
        else
        some (gI m4 102 (gR G 203 (gR G 700 x0)), m4))))
-- ProRataMarket.count
def f_X7_count (N : Nat) (G : qG)  (x0 : Nat) (x1 : Int) (m0 : qM) : Option (Int × qM) :=
  if x1 = 0 then (
    some (gI m0 1 (gR G 200 (gR G 700 x0)), m0))
  else
  if x1 = 1 then (
    if (gI m0 207 (gR G 700 x0)) = 0 then (
      some (0, m0))
    else (
      some (1, m0)))
  else
  if x1 = 2 then (
    some (gI m0 303 (gR G 201 (gR G 700 x0)), m0))
  else
  if x1 = 3 then (
    some (gI m0 205 (gR G 700 x0), m0))
  else
  if x1 = 4 then (
    some (gI m0 206 (gR G 700 x0), m0))
  else
  if x1 = 5 then (
    some (gI m0 208 (gR G 700 x0), m0))
  else
  if x1 = 6 then (
    some (gI m0 601 (gR G 702 x0), m0))
  else
  if x1 = 7 then (
    some (gI m0 301 (gR G 201 (gR G 700 x0)), m0))
  else
  if x1 = 8 then (
    some (gI m0 304 (gR G 201 (gR G 700 x0)), m0))
  else
  if x1 = 9 then (
    some (gI m0 209 (gR G 700 x0), m0))
  else
  if x1 = 10 then (
    some (gI m0 211 (gR G 700 x0), m0))
  else
  some ((-1), m0)
-- ProRataMarket.cut
def f_X7_cut (N : Nat) (G : qG)  (x0 : Nat) (x1 : Int) (x2 : Int) (m0 : qM) : Option (Int × qM) :=
  kb2 (f_X0_find N G (gR G 200 (gR G 700 x0)) x1 m0) fun v2 m1 =>
  match v2 with
  | none => (
    some ((-1), m1))
  | some o3 => (
    if x2 < 1 then (
      some ((-1), m1))
    else (
      if x2 < (gI m1 404 o3) then (
        kp (sI m1 404 o3 x2) fun m6 =>
        kb (f_X0_lapse N G (gR G 200 (gR G 700 x0)) o3 m6) fun m7 =>
        some (gI m1 404 o3, m7))
      else (
        some ((-1), m1))))
-- ProRataMarket.off
def f_X7_off (N : Nat) (G : qG)  (x0 : Nat) (x1 : Int) (m0 : qM) : Option (Int × qM) :=
  kb2 (f_X0_find N G (gR G 200 (gR G 700 x0)) x1 m0) fun v2 m1 =>
  match v2 with
  | none => (
    some ((-1), m1))
  | some o3 => (
    kp (sI m1 404 o3 0) fun m4 =>
    kb (f_X0_sweep N G (gR G 200 (gR G 700 x0)) m4) fun m5 =>
    some (gI m1 404 o3, m5))
-- ProRataMarket.grant
def f_X7_grant (N : Nat) (G : qG)  (x0 : Nat) (x1 : Int) (m0 : qM) : Option (Int × qM) :=
  if x1 < 0 then (
    some ((-1), m0))
  else (
    if 1000 < x1 then (
      some ((-1), m0))
    else (
      kp (sI m0 205 (gR G 700 x0) x1) fun m3 =>
      some (gI m0 205 (gR G 700 x0), m3)))
-- ProRataMarket.least
def f_X7_least (N : Nat) (G : qG)  (x0 : Nat) (x1 : Int) (m0 : qM) : Option (Int × qM) :=
  if x1 < 1 then (
    some ((-1), m0))
  else (
    if 50 < x1 then (
      some ((-1), m0))
    else (
      kp (sI m0 206 (gR G 700 x0) x1) fun m3 =>
      some (gI m0 206 (gR G 700 x0), m3)))
-- ProRataMarket.open
def f_X7_open (N : Nat) (G : qG)  (x0 : Nat) (m0 : qM) : Option (Int × qM) :=
  if (gI m0 207 (gR G 700 x0)) = 0 then (
    some ((-1), m0))
  else (
    kb2 (f_X2_changeOver N G (gR G 700 x0) m0) fun v3 m2 =>
    some (v3, m2))
-- ProRataMarket.isTrader
def f_X7_isTrader (N : Nat) (G : qG)  (x0 : Int) (m0 : qM) : Option (Int × qM) :=
  if x0 < 0 then (
    some (0, m0))
  else (
    if x0 < 10 then (
      some (1, m0))
    else (
      some (0, m0)))
-- ProRataMarket.isSide
def f_X7_isSide_9 (N : Nat) (G : qG)   (m0 : qM) : Option (Int × qM) :=
  some (1, m0)
def f_X7_isSide (N : Nat) (G : qG)  (x0 : Int) (m0 : qM) : Option (Int × qM) :=
  if x0 = 0 then (
    f_X7_isSide_9 N G   m0)
  else (
    if x0 = 1 then (
      f_X7_isSide_9 N G   m0)
    else (
      some (0, m0)))
-- ProRataMarket.isForm
def f_X7_isForm (N : Nat) (G : qG)  (x0 : Int) (x1 : Int) (x2 : Int) (x3 : Int) (x4 : Int) (m0 : qM) : Option (Int × qM) :=
  kb2 (f_X7_isTrader N G x0 m0) fun v2 m1 =>
  if v2 = 0 then (
    some (0, m1))
  else (
    kb2 (f_X7_isSide N G x1 m1) fun v5 m4 =>
    if v5 = 0 then (
      some (0, m4))
    else (
      if x2 < 1 then (
        some (0, m4))
      else (
        if 9999999 < x2 then (
          some (0, m4))
        else (
          if x3 < 1 then (
            some (0, m4))
          else (
            if 1000 < x3 then (
              some (0, m4))
            else (
              if x4 < 0 then (
                some (0, m4))
              else (
                if x4 < 4 then (
                  some (1, m4))
                else (
                  some (0, m4)))))))))
-- ProRataMarket.isWorthInt
def f_X7_isWorthInt (N : Nat) (G : qG)  (x0 : Int) (x1 : Int) (m0 : qM) : Option (Int × qM) :=
  ckJ (x0 * x1) fun v1 =>
  if 2147483647 < v1 then (
    some (0, m0))
  else (
    some (1, m0))
-- ProRataMarket.level
def f_X7_level (N : Nat) (G : qG)  (x0 : Nat) (x1 : Int) (x2 : Int) (x3 : Int) (m0 : qM) : Option (Int × qM) :=
  kb2 (f_X7_isSide N G x1 m0) fun v2 m1 =>
  if v2 = 0 then (
    some ((-1), m1))
  else (
    if x3 < 0 then (
      some ((-1), m1))
    else (
      if 2 < x3 then (
        some ((-1), m1))
      else (
        if x2 = (-1) then (
          kb2 (f_X0_prices N G (gR G 200 (gR G 700 x0)) x1 m1) fun v17 m16 =>
          some (v17, m16))
        else (
          kb2 (f_X0_priceAt N G (gR G 200 (gR G 700 x0)) x1 x2 m1) fun v8 m7 =>
          if v8 = 0 then (
            some ((-1), m7))
          else (
            if x3 = 0 then (
              some (v8, m7))
            else
            if x3 = 1 then (
              kb2 (f_X0_sizesAt N G (gR G 200 (gR G 700 x0)) x1 v8 m7) fun v13 m12 =>
              some (v13, m12))
            else
            kb2 (f_X0_ordersAt N G (gR G 200 (gR G 700 x0)) x1 v8 m7) fun v15 m14 =>
            some (v15, m14))))))
-- ProRataMarket.order
def f_X7_order (N : Nat) (G : qG)  (x0 : Nat) (x1 : Int) (x2 : Int) (x3 : Int) (x4 : Int) (x5 : Int) (m0 : qM) : Option (Int × qM) :=
  kb2 (f_X7_isForm N G x1 x2 x3 x4 x5 m0) fun v2 m1 =>
  if v2 = 0 then (
    some ((-1), m1))
  else (
    kb2 (f_X7_isWorthInt N G x3 x4 m1) fun v5 m4 =>
    if v5 = 0 then (
      some ((-2), m4))
    else (
      kb2 (f_X2_comeIn N G (gR G 700 x0) x1 x2 x3 x4 x5 m4) fun v8 m7 =>
      some (v8, m7)))
-- ProRataMarket.queue
def f_X7_queue (N : Nat) (G : qG)  (x0 : Nat) (x1 : Int) (x2 : Int) (x3 : Int) (m0 : qM) : Option (Int × qM) :=
  kb2 (f_X7_isSide N G x1 m0) fun v2 m1 =>
  if v2 = 0 then (
    some ((-1), m1))
  else (
    if x3 < 0 then (
      some ((-1), m1))
    else (
      kb2 (f_X0_numberAt N G (gR G 200 (gR G 700 x0)) x1 x2 x3 m1) fun v6 m5 =>
      some (v6, m5)))
-- ProRataMarket.share
def f_X7_share (N : Nat) (G : qG)  (x0 : Nat) (x1 : Int) (x2 : Int) (x3 : Int) (m0 : qM) : Option (Int × qM) :=
  kb2 (f_X0_find N G (gR G 200 (gR G 700 x0)) x1 m0) fun v2 m1 =>
  match v2 with
  | none => (
    some ((-1), m1))
  | some o3 => (
    if x3 < 0 then (
      some ((-1), m1))
    else (
      if 3 < x3 then (
        some ((-1), m1))
      else (
        kb (f_X5_load N G (gR G 202 (gR G 700 x0)) (gR G 200 (gR G 700 x0)) (gI m1 402 o3) (gI m1 403 o3) m1) fun m6 =>
        if x2 < 1 then (
          some ((-1), m6))
        else (
          if (gI m6 507 (gR G 202 (gR G 700 x0))) < x2 then (
            some ((-1), m6))
          else (
            kb (f_X5_deal N G (gR G 202 (gR G 700 x0)) x2 (gI m6 206 (gR G 700 x0)) m6) fun m10 =>
            kb2 (f_X5_partOf N G (gR G 202 (gR G 700 x0)) o3 x3 m10) fun v13 m12 =>
            some (v13, m12))))))
-- ProRataMarket.splits
def f_X7_splits (N : Nat) (G : qG)  (x0 : Nat) (x1 : Int) (x2 : Int) (x3 : Int) (m0 : qM) : Option (Int × qM) :=
  kb2 (f_X0_find N G (gR G 200 (gR G 700 x0)) x1 m0) fun v2 m1 =>
  match v2 with
  | none => (
    some ((-2000000), m1))
  | some o3 => (
    if x2 < 2 then (
      some ((-2000000), m1))
    else (
      if 9 < x2 then (
        some ((-2000000), m1))
      else (
        if (gI m1 404 o3) < x2 then (
          some ((-2000000), m1))
        else (
          kb (f_X5_loadInParts N G (gR G 202 (gR G 700 x0)) (gR G 200 (gR G 700 x0)) o3 1 m1) fun m7 =>
          if x3 < 1 then (
            some ((-2000000), m7))
          else (
            if (gI m7 507 (gR G 202 (gR G 700 x0))) < x3 then (
              some ((-2000000), m7))
            else (
              kb (f_X5_deal N G (gR G 202 (gR G 700 x0)) x3 (gI m7 206 (gR G 700 x0)) m7) fun m11 =>
              kb2 (f_X5_partOf N G (gR G 202 (gR G 700 x0)) o3 0 m11) fun v14 m13 =>
              kb (f_X5_loadInParts N G (gR G 202 (gR G 700 x0)) (gR G 200 (gR G 700 x0)) o3 x2 m13) fun m15 =>
              kb (f_X5_deal N G (gR G 202 (gR G 700 x0)) x3 (gI m15 206 (gR G 700 x0)) m15) fun m17 =>
              kb2 (f_X5_partOf N G (gR G 202 (gR G 700 x0)) o3 0 m17) fun v20 m19 =>
              ckI (v20 - v14) fun v21 =>
              some (v21, m19)))))))
-- ProRataMarket.takeFor
def f_X7_takeFor_72 (N : Nat) (G : qG)  (x0 : Nat) (s0 : Nat) (s1 : Nat) (s2 : Int) (m0 : qM) : Option (Int × qM) :=
  kb2 (f_X5_leastTake N G s0 s1 s2 (gI m0 206 (gR G 700 x0)) m0) fun v2 m1 =>
  some (v2, m1)
def f_X7_takeFor (N : Nat) (G : qG)  (x0 : Nat) (x1 : Int) (x2 : Int) (m0 : qM) : Option (Int × qM) :=
  kb2 (f_X0_find N G (gR G 200 (gR G 700 x0)) x1 m0) fun v2 m1 =>
  match v2 with
  | none => (
    some ((-1), m1))
  | some o3 => (
    if x2 < 0 then (
      some ((-1), m1))
    else (
      if 1 < x2 then (
        some ((-1), m1))
      else (
        kb (f_X5_load N G (gR G 202 (gR G 700 x0)) (gR G 200 (gR G 700 x0)) (gI m1 402 o3) (gI m1 403 o3) m1) fun m6 =>
        if x2 = 0 then (
          f_X7_takeFor_72 N G  x0 (gR G 202 (gR G 700 x0)) o3 1 m6)
        else (
          f_X7_takeFor_72 N G  x0 (gR G 202 (gR G 700 x0)) o3 (gI m6 404 o3) m6))))
-- ProRataMarket.top
def f_X7_top (N : Nat) (G : qG)  (x0 : Nat) (x1 : Int) (m0 : qM) : Option (Int × qM) :=
  kb2 (f_X7_isSide N G x1 m0) fun v2 m1 =>
  if v2 = 0 then (
    some ((-1), m1))
  else (
    rdA m1 (gR G 2 (gR G 200 (gR G 700 x0))) x1 2 fun v4 =>
    if v4 = 0 then (
      some ((-1), m1))
    else (
      rdA m1 (gR G 2 (gR G 200 (gR G 700 x0))) x1 2 fun v6 =>
      some (v6, m1)))
-- ProRataMarket.trade
def f_X7_trade (N : Nat) (G : qG)  (x0 : Nat) (x1 : Int) (x2 : Int) (m0 : qM) : Option (Int × qM) :=
  if x1 < 0 then (
    some ((-1), m0))
  else (
    if x1 < (gI m0 301 (gR G 201 (gR G 700 x0))) then (
      if x2 < 0 then (
        some ((-1), m0))
      else (
        if 4 < x2 then (
          some ((-1), m0))
        else (
          kb2 (f_X3_told N G (gR G 201 (gR G 700 x0)) x1 x2 m0) fun v6 m5 =>
          some (v6, m5))))
    else (
      some ((-1), m0)))
-- ProRataMarket.worth
def f_X7_worth (N : Nat) (G : qG)  (x0 : Nat) (x1 : Int) (x2 : Int) (x3 : Int) (x4 : Int) (x5 : Int) (m0 : qM) : Option (Int × qM) :=
  kb2 (f_X7_isForm N G x1 x2 x3 x4 x5 m0) fun v2 m1 =>
  if v2 = 0 then (
    some ((-1), m1))
  else (
    kb2 (f_X7_isWorthInt N G x3 x4 m1) fun v5 m4 =>
    if v5 = 0 then (
      some ((-1), m4))
    else (
      kb (f_X2_prepareTrial N G (gR G 701 x0) (gR G 700 x0) m4) fun m7 =>
      kb2 (f_X2_comeIn N G (gR G 701 x0) x1 x2 x3 x4 x5 m7) fun v10 m9 =>
      rdA m9 (gR G 306 (gR G 201 (gR G 701 x0))) x1 10 fun v11 =>
      if x2 = 0 then (
        kp (w64 (-v11)) fun v13 =>
        some (v13, m9))
      else (
        some (v11, m9))))
-- ProRataMarket.would
def f_X7_would (N : Nat) (G : qG)  (x0 : Nat) (x1 : Int) (x2 : Int) (x3 : Int) (x4 : Int) (x5 : Int) (x6 : Int) (m0 : qM) : Option (Int × qM) :=
  kb2 (f_X7_isForm N G x1 x2 x3 x4 x5 m0) fun v2 m1 =>
  if v2 = 0 then (
    some ((-1), m1))
  else (
    kb2 (f_X7_isWorthInt N G x3 x4 m1) fun v5 m4 =>
    if v5 = 0 then (
      some ((-1), m4))
    else (
      kb (f_X2_prepareTrial N G (gR G 701 x0) (gR G 700 x0) m4) fun m7 =>
      kb2 (f_X2_comeIn N G (gR G 701 x0) x1 x2 x3 x4 x5 m7) fun v10 m9 =>
      if x6 = 0 then (
        some (gI m9 304 (gR G 201 (gR G 701 x0)), m9))
      else
      if x6 = 1 then (
        some (gI m9 404 (gR G 204 (gR G 701 x0)), m9))
      else
      if x6 = 2 then (
        some (gI m9 303 (gR G 201 (gR G 701 x0)), m9))
      else
      if x6 = 3 then (
        kp (w32 ((gI m9 210 (gR G 701 x0)) + (gI m9 211 (gR G 701 x0)))) fun v15 =>
        some (v15, m9))
      else
      some ((-1), m9)))
-- ProRataMarketModel.ofOrder
def f_X8_ofOrder (N : Nat) (G : qG)  (x0 : Nat) (x1 : Int) (x2 : Int) (m0 : qM) : Option (Int × qM) :=
  ckI (6 * x1) fun v1 =>
  ckI (24 + v1) fun v2 =>
  ckI (v2 + x2) fun v3 =>
  rdA m0 (gR G 800 x0) v3 684 fun v4 =>
  some (v4, m0)
-- ProRataMarketModel.placeOf
def f_X8_placeOf_2 (N : Nat) (G : qG) (k2 : (Nat → Int → Int → qM → Option (Int × qM))) (x0 : Nat) (x1 : Int) (x2 : Int) (m0 : qM) : Option (Int × qM) :=
  if x2 < (gA m0 (gR G 800 x0) 5) then (
    kb2 (f_X8_ofOrder N G x0 x2 0 m0) fun v3 m2 =>
    if v3 = x1 then (
      some (x2, m2))
    else (
      ckI (x2 + 1) fun v5 =>
      k2 x0 x1 v5 m2))
  else (
    some ((-1), m0))
def f_X8_placeOf_L2 (N : Nat) (G : qG)  (x0 : Nat) (x1 : Int) (x2 : Int) (m0 : qM) : Option (Int × qM) :=
  qLoop (fun k p => f_X8_placeOf_2 N G (fun x0 x1 x2 m0 => k (x0, x1, x2, m0)) p.1 p.2.1 p.2.2.1 p.2.2.2) N (x0, x1, x2, m0)
def f_X8_placeOf (N : Nat) (G : qG)  (x0 : Nat) (x1 : Int) (m0 : qM) : Option (Int × qM) :=
  f_X8_placeOf_L2 N G  x0 x1 0 m0
-- ProRataMarketModel.within
def f_X8_within (N : Nat) (G : qG)  (x0 : Int) (x2 : Int) (x4 : Int) (m0 : qM) : Option (Int × qM) :=
  if x0 < x2 then (
    some (0, m0))
  else (
    if x4 < x0 then (
      some (0, m0))
    else (
      some (1, m0)))
-- ProRataMarketModel.isBetter
def f_X8_isBetter (N : Nat) (G : qG)  (x0 : Int) (x1 : Int) (x2 : Int) (m0 : qM) : Option (Int × qM) :=
  if x0 = 0 then (
    if x2 < x1 then (
      some (1, m0))
    else (
      some (0, m0)))
  else (
    if x1 < x2 then (
      some (1, m0))
    else (
      some (0, m0)))
-- ProRataMarketModel.ahead
def f_X8_ahead_138 (N : Nat) (G : qG) (k41 : (Nat → Int → Int → Int → Int → Int → qM → Option (Int × qM))) (x0 : Nat) (x2 : Int) (x3 : Int) (x4 : Int) (x5 : Int) (x6 : Int) (m0 : qM) : Option (Int × qM) :=
  ckI (x6 + 1) fun v1 =>
  k41 x0 x2 x3 x4 x5 v1 m0
def f_X8_ahead_119 (N : Nat) (G : qG) (k41 : (Nat → Int → Int → Int → Int → Int → qM → Option (Int × qM))) (x0 : Nat) (x2 : Int) (x3 : Int) (x4 : Int) (x5 : Int) (x6 : Int) (s0 : Int) (m0 : qM) : Option (Int × qM) :=
  if s0 = 0 then (
    f_X8_ahead_138 N G k41 x0 x2 x3 x4 x5 x6 m0)
  else (
    kb2 (f_X8_ofOrder N G x0 x6 4 m0) fun v3 m2 =>
    ckI (x5 + v3) fun v4 =>
    f_X8_ahead_138 N G k41 x0 x2 x3 x4 v4 x6 m2)
def f_X8_ahead_97 (N : Nat) (G : qG) (k41 : (Nat → Int → Int → Int → Int → Int → qM → Option (Int × qM))) (x0 : Nat) (x2 : Int) (x3 : Int) (x4 : Int) (x5 : Int) (x6 : Int) (m0 : qM) : Option (Int × qM) :=
  f_X8_ahead_119 N G k41 x0 x2 x3 x4 x5 x6 0 m0
def f_X8_ahead_41 (N : Nat) (G : qG) (k41 : (Nat → Int → Int → Int → Int → Int → qM → Option (Int × qM))) (x0 : Nat) (x2 : Int) (x3 : Int) (x4 : Int) (x5 : Int) (x6 : Int) (m0 : qM) : Option (Int × qM) :=
  if x6 < (gA m0 (gR G 800 x0) 5) then (
    kb2 (f_X8_ofOrder N G x0 x6 2 m0) fun v3 m2 =>
    if v3 = x4 then (
      if x2 = 0 then (
        if x6 < x3 then (
          kb2 (f_X8_ofOrder N G x0 x6 3 m2) fun v14 m13 =>
          kb2 (f_X8_ofOrder N G x0 x3 3 m13) fun v16 m15 =>
          if v14 = v16 then (
            f_X8_ahead_119 N G k41 x0 x2 x3 x4 x5 x6 1 m15)
          else (
            f_X8_ahead_97 N G k41 x0 x2 x3 x4 x5 x6 m15))
        else (
          f_X8_ahead_97 N G k41 x0 x2 x3 x4 x5 x6 m2))
      else (
        kb2 (f_X8_ofOrder N G x0 x6 3 m2) fun v7 m6 =>
        kb2 (f_X8_ofOrder N G x0 x3 3 m6) fun v9 m8 =>
        kb2 (f_X8_isBetter N G x4 v7 v9 m8) fun v11 m10 =>
        f_X8_ahead_119 N G k41 x0 x2 x3 x4 x5 x6 v11 m10))
    else (
      f_X8_ahead_138 N G k41 x0 x2 x3 x4 x5 x6 m2))
  else (
    some (x5, m0))
def f_X8_ahead_L41 (N : Nat) (G : qG)  (x0 : Nat) (x2 : Int) (x3 : Int) (x4 : Int) (x5 : Int) (x6 : Int) (m0 : qM) : Option (Int × qM) :=
  qLoop (fun k p => f_X8_ahead_41 N G (fun x0 x2 x3 x4 x5 x6 m0 => k (x0, x2, x3, x4, x5, x6, m0)) p.1 p.2.1 p.2.2.1 p.2.2.2.1 p.2.2.2.2.1 p.2.2.2.2.2.1 p.2.2.2.2.2.2) N (x0, x2, x3, x4, x5, x6, m0)
def f_X8_ahead (N : Nat) (G : qG)  (x0 : Nat) (x1 : Int) (x2 : Int) (m0 : qM) : Option (Int × qM) :=
  kp (sI m0 804 x0 0) fun m1 =>
  kb2 (f_X8_placeOf N G x0 x1 m1) fun v3 m2 =>
  if v3 < 0 then (
    some ((-1), m2))
  else (
    kb2 (f_X8_within N G x2 0 1 m2) fun v6 m5 =>
    if v6 = 0 then (
      some ((-1), m5))
    else (
      kb2 (f_X8_ofOrder N G x0 v3 2 m5) fun v9 m8 =>
      f_X8_ahead_L41 N G  x0 x2 v3 v9 0 0 m8))
-- ProRataMarketModel.bestOf
def f_X8_bestOf_52 (N : Nat) (G : qG) (k4 : (Nat → Int → Int → Int → qM → Option (Int × qM))) (x0 : Nat) (x1 : Int) (x2 : Int) (x3 : Int) (m0 : qM) : Option (Int × qM) :=
  ckI (x3 + 1) fun v1 =>
  k4 x0 x1 x2 v1 m0
def f_X8_bestOf_49 (N : Nat) (G : qG) (k4 : (Nat → Int → Int → Int → qM → Option (Int × qM))) (x0 : Nat) (x1 : Int) (x3 : Int) (x4 : Int) (m0 : qM) : Option (Int × qM) :=
  f_X8_bestOf_52 N G k4 x0 x1 x4 x3 m0
def f_X8_bestOf_4 (N : Nat) (G : qG) (k4 : (Nat → Int → Int → Int → qM → Option (Int × qM))) (x0 : Nat) (x1 : Int) (x2 : Int) (x3 : Int) (m0 : qM) : Option (Int × qM) :=
  if x3 < (gA m0 (gR G 800 x0) 5) then (
    kb2 (f_X8_ofOrder N G x0 x3 2 m0) fun v3 m2 =>
    if v3 = x1 then (
      kb2 (f_X8_ofOrder N G x0 x3 3 m2) fun v6 m5 =>
      if x2 = 0 then (
        f_X8_bestOf_49 N G k4 x0 x1 x3 v6 m5)
      else (
        kb2 (f_X8_isBetter N G x1 v6 x2 m5) fun v9 m8 =>
        if v9 = 0 then (
          f_X8_bestOf_52 N G k4 x0 x1 x2 x3 m8)
        else (
          f_X8_bestOf_49 N G k4 x0 x1 x3 v6 m8)))
    else (
      f_X8_bestOf_52 N G k4 x0 x1 x2 x3 m2))
  else (
    some (x2, m0))
def f_X8_bestOf_L4 (N : Nat) (G : qG)  (x0 : Nat) (x1 : Int) (x2 : Int) (x3 : Int) (m0 : qM) : Option (Int × qM) :=
  qLoop (fun k p => f_X8_bestOf_4 N G (fun x0 x1 x2 x3 m0 => k (x0, x1, x2, x3, m0)) p.1 p.2.1 p.2.2.1 p.2.2.2.1 p.2.2.2.2) N (x0, x1, x2, x3, m0)
def f_X8_bestOf (N : Nat) (G : qG)  (x0 : Nat) (x1 : Int) (m0 : qM) : Option (Int × qM) :=
  f_X8_bestOf_L4 N G  x0 x1 0 0 m0
-- ProRataMarketModel.lapses
def f_X8_lapses (N : Nat) (G : qG)  (x0 : Nat) (x1 : Int) (m0 : qM) : Option (qM) :=
  ckI (6 + x1) fun v1 =>
  wrA m0 (gR G 800 x0) v1 684 (-1) fun m2 =>
  ckI (8 + x1) fun v3 =>
  wrA m2 (gR G 800 x0) v3 684 0 fun m4 =>
  some m4
-- ProRataMarketModel.calls
def f_X8_calls (N : Nat) (G : qG)  (x0 : Nat) (m0 : qM) : Option (Int × qM) :=
  if (gA m0 (gR G 800 x0) 2) = 1 then (
    some (0, m0))
  else (
    kp (sA m0 (gR G 800 x0) 2 1) fun m2 =>
    kb (f_X8_lapses N G x0 0 m2) fun m3 =>
    kb (f_X8_lapses N G x0 1 m3) fun m5 =>
    some (1, m5))
-- ProRataMarketModel.call
def f_X8_call (N : Nat) (G : qG)  (x0 : Nat) (m0 : qM) : Option (Int × qM) :=
  kp (sI m0 804 x0 0) fun m1 =>
  kb2 (f_X8_calls N G x0 m1) fun v3 m2 =>
  some (v3, m2)
-- ProRataMarketModel.endOf
def f_X8_endOf_58 (N : Nat) (G : qG) (k5 : (Nat → Int → Int → Int → qM → Option (Int × qM))) (x0 : Nat) (x1 : Int) (x2 : Int) (x3 : Int) (m0 : qM) : Option (Int × qM) :=
  ckI (x3 + 1) fun v1 =>
  k5 x0 x1 x2 v1 m0
def f_X8_endOf_41 (N : Nat) (G : qG) (k5 : (Nat → Int → Int → Int → qM → Option (Int × qM))) (x0 : Nat) (x1 : Int) (x2 : Int) (x3 : Int) (s0 : Int) (m0 : qM) : Option (Int × qM) :=
  if s0 < x1 then (
    f_X8_endOf_58 N G k5 x0 x1 x2 x3 m0)
  else (
    if s0 < x2 then (
      f_X8_endOf_58 N G k5 x0 x1 s0 x3 m0)
    else (
      f_X8_endOf_58 N G k5 x0 x1 x2 x3 m0))
def f_X8_endOf_5 (N : Nat) (G : qG) (k5 : (Nat → Int → Int → Int → qM → Option (Int × qM))) (x0 : Nat) (x1 : Int) (x2 : Int) (x3 : Int) (m0 : qM) : Option (Int × qM) :=
  if x3 < (gA m0 (gR G 800 x0) 5) then (
    kb2 (f_X8_ofOrder N G x0 x3 2 m0) fun v3 m2 =>
    if v3 = 0 then (
      kb2 (f_X8_ofOrder N G x0 x3 3 m2) fun v9 m8 =>
      f_X8_endOf_41 N G k5 x0 x1 x2 x3 v9 m8)
    else (
      kb2 (f_X8_ofOrder N G x0 x3 3 m2) fun v6 m5 =>
      ckI (v6 - 1) fun v7 =>
      f_X8_endOf_41 N G k5 x0 x1 x2 x3 v7 m5))
  else (
    some (x2, m0))
def f_X8_endOf_L5 (N : Nat) (G : qG)  (x0 : Nat) (x1 : Int) (x2 : Int) (x3 : Int) (m0 : qM) : Option (Int × qM) :=
  qLoop (fun k p => f_X8_endOf_5 N G (fun x0 x1 x2 x3 m0 => k (x0, x1, x2, x3, m0)) p.1 p.2.1 p.2.2.1 p.2.2.2.1 p.2.2.2.2) N (x0, x1, x2, x3, m0)
def f_X8_endOf (N : Nat) (G : qG)  (x0 : Nat) (x1 : Int) (m0 : qM) : Option (Int × qM) :=
  f_X8_endOf_L5 N G  x0 x1 9999999 0 m0
-- ProRataMarketModel.wanted
def f_X8_wanted_52 (N : Nat) (G : qG) (k5 : (Nat → Int → Int → Int → Int → qM → Option (Int × qM))) (x0 : Nat) (x1 : Int) (x2 : Int) (x3 : Int) (x4 : Int) (m0 : qM) : Option (Int × qM) :=
  ckI (x4 + 1) fun v1 =>
  k5 x0 x1 x2 x3 v1 m0
def f_X8_wanted_5 (N : Nat) (G : qG) (k5 : (Nat → Int → Int → Int → Int → qM → Option (Int × qM))) (x0 : Nat) (x1 : Int) (x2 : Int) (x3 : Int) (x4 : Int) (m0 : qM) : Option (Int × qM) :=
  if x4 < (gA m0 (gR G 800 x0) 5) then (
    kb2 (f_X8_ofOrder N G x0 x4 2 m0) fun v3 m2 =>
    if v3 = x1 then (
      kb2 (f_X8_ofOrder N G x0 x4 3 m2) fun v6 m5 =>
      kb2 (f_X8_isBetter N G x1 x2 v6 m5) fun v8 m7 =>
      if v8 = 0 then (
        kb2 (f_X8_ofOrder N G x0 x4 4 m7) fun v11 m10 =>
        ckI (x3 + v11) fun v12 =>
        f_X8_wanted_52 N G k5 x0 x1 x2 v12 x4 m10)
      else (
        f_X8_wanted_52 N G k5 x0 x1 x2 x3 x4 m7))
    else (
      f_X8_wanted_52 N G k5 x0 x1 x2 x3 x4 m2))
  else (
    some (x3, m0))
def f_X8_wanted_L5 (N : Nat) (G : qG)  (x0 : Nat) (x1 : Int) (x2 : Int) (x3 : Int) (x4 : Int) (m0 : qM) : Option (Int × qM) :=
  qLoop (fun k p => f_X8_wanted_5 N G (fun x0 x1 x2 x3 x4 m0 => k (x0, x1, x2, x3, x4, m0)) p.1 p.2.1 p.2.2.1 p.2.2.2.1 p.2.2.2.2.1 p.2.2.2.2.2) N (x0, x1, x2, x3, x4, m0)
def f_X8_wanted (N : Nat) (G : qG)  (x0 : Nat) (x1 : Int) (x2 : Int) (m0 : qM) : Option (Int × qM) :=
  f_X8_wanted_L5 N G  x0 x1 x2 0 0 m0
-- ProRataMarketModel.off0
def f_X8_off0 (N : Nat) (G : qG)  (x0 : Int) (x1 : Int) (m0 : qM) : Option (Int × qM) :=
  if x1 < x0 then (
    ckI (x0 - x1) fun v3 =>
    some (v3, m0))
  else (
    ckI (x1 - x0) fun v2 =>
    some (v2, m0))
-- ProRataMarketModel.weighs
def f_X8_weighs_168 (N : Nat) (G : qG)  (x0 : Nat) (x3 : Int) (x4 : Int) (x5 : Int) (x6 : Int) (m0 : qM) : Option (qM) :=
  kp (sI m0 818 x0 x3) fun m1 =>
  kp (sI m1 819 x0 x6) fun m2 =>
  ckI (x4 - x5) fun v3 =>
  kp (sI m2 820 x0 v3) fun m4 =>
  some m4
def f_X8_weighs_125 (N : Nat) (G : qG)  (x0 : Nat) (x3 : Int) (x4 : Int) (x5 : Int) (x6 : Int) (x7 : Int) (s0 : Int) (m0 : qM) : Option (qM) :=
  if s0 < x7 then (
    some m0)
  else (
    if x7 = s0 then (
      kb2 (f_X8_off0 N G x3 (gA m0 (gR G 800 x0) 3) m0) fun v4 m3 =>
      kb2 (f_X8_off0 N G (gI m3 818 x0) (gA m3 (gR G 800 x0) 3) m3) fun v6 m5 =>
      if v4 < v6 then (
        f_X8_weighs_168 N G  x0 x3 x4 x5 x6 m5)
      else (
        some m5))
    else (
      f_X8_weighs_168 N G  x0 x3 x4 x5 x6 m0))
def f_X8_weighs_71 (N : Nat) (G : qG)  (x0 : Nat) (x3 : Int) (x4 : Int) (x5 : Int) (s0 : Int) (m0 : qM) : Option (qM) :=
  if s0 = 0 then (
    some m0)
  else (
    if s0 < (gI m0 819 x0) then (
      some m0)
    else (
      if s0 = (gI m0 819 x0) then (
        kb2 (f_X8_off0 N G x5 x4 m0) fun v5 m4 =>
        if (gI m4 820 x0) < 0 then (
          ckI (-(gI m4 820 x0)) fun v7 =>
          f_X8_weighs_125 N G  x0 x3 x4 x5 s0 v5 v7 m4)
        else (
          f_X8_weighs_125 N G  x0 x3 x4 x5 s0 v5 (gI m4 820 x0) m4))
      else (
        f_X8_weighs_168 N G  x0 x3 x4 x5 s0 m0)))
def f_X8_weighs_40 (N : Nat) (G : qG)  (x0 : Nat) (s0 : Int) (m0 : qM) : Option (qM) :=
  kb2 (f_X8_wanted N G x0 0 s0 m0) fun v2 m1 =>
  kb2 (f_X8_wanted N G x0 1 s0 m1) fun v4 m3 =>
  if v4 < v2 then (
    f_X8_weighs_71 N G  x0 s0 v2 v4 v4 m3)
  else (
    f_X8_weighs_71 N G  x0 s0 v2 v4 v2 m3)
def f_X8_weighs (N : Nat) (G : qG)  (x0 : Nat) (x1 : Int) (m0 : qM) : Option (qM) :=
  kb2 (f_X8_endOf N G x0 x1 m0) fun v2 m1 =>
  if (gA m1 (gR G 800 x0) 3) < x1 then (
    f_X8_weighs_40 N G  x0 x1 m1)
  else (
    if v2 < (gA m1 (gR G 800 x0) 3) then (
      f_X8_weighs_40 N G  x0 v2 m1)
    else (
      f_X8_weighs_40 N G  x0 (gA m1 (gR G 800 x0) 3) m1))
-- ProRataMarketModel.clearing
def f_X8_clearing_17 (N : Nat) (G : qG) (k17 : (Nat → Int → qM → Option (qM))) (x0 : Nat) (x1 : Int) (m0 : qM) : Option (qM) :=
  if 9999999 < x1 then (
    some m0)
  else (
    kb (f_X8_weighs N G x0 x1 m0) fun m2 =>
    kb2 (f_X8_endOf N G x0 x1 m2) fun v5 m4 =>
    ckI (v5 + 1) fun v6 =>
    k17 x0 v6 m4)
def f_X8_clearing_L17 (N : Nat) (G : qG)  (x0 : Nat) (x1 : Int) (m0 : qM) : Option (qM) :=
  qLoop (fun k p => f_X8_clearing_17 N G (fun x0 x1 m0 => k (x0, x1, m0)) p.1 p.2.1 p.2.2) N (x0, x1, m0)
def f_X8_clearing (N : Nat) (G : qG)  (x0 : Nat) (m0 : qM) : Option (qM) :=
  kp (sI m0 818 x0 0) fun m1 =>
  kp (sI m1 819 x0 0) fun m2 =>
  kp (sI m2 820 x0 0) fun m3 =>
  f_X8_clearing_L17 N G  x0 1 m3
-- ProRataMarketModel.clears
def f_X8_clears (N : Nat) (G : qG)  (x0 : Nat) (x1 : Int) (m0 : qM) : Option (Int × qM) :=
  kp (sI m0 804 x0 0) fun m1 =>
  kb2 (f_X8_within N G x1 0 2 m1) fun v3 m2 =>
  if v3 = 0 then (
    some ((-1), m2))
  else (
    if (gA m2 (gR G 800 x0) 2) = 0 then (
      some (0, m2))
    else (
      kb (f_X8_clearing N G x0 m2) fun m6 =>
      if x1 = 0 then (
        some (gI m6 818 x0, m6))
      else (
        if x1 = 1 then (
          some (gI m6 819 x0, m6))
        else (
          some (gI m6 820 x0, m6)))))
-- ProRataMarketModel.comes
def f_X8_comes (N : Nat) (G : qG)  (x0 : Nat) (x1 : Int) (x2 : Int) (m0 : qM) : Option (qM) :=
  ckI ((gA m0 (gR G 800 x0) 4) + 1) fun v1 =>
  kp (sA m0 (gR G 800 x0) 4 v1) fun m2 =>
  kp (sI m2 811 x0 (gA m2 (gR G 800 x0) 4)) fun m3 =>
  kp (sI m3 812 x0 x1) fun m4 =>
  kp (sI m4 813 x0 x2) fun m5 =>
  kp (sI m5 814 x0 0) fun m6 =>
  kp (sI m6 815 x0 0) fun m7 =>
  kp (sI m7 816 x0 0) fun m8 =>
  kp (sI m8 817 x0 0) fun m9 =>
  some m9
-- ProRataMarketModel.count
def f_X8_count (N : Nat) (G : qG)  (x0 : Nat) (x1 : Int) (m0 : qM) : Option (Int × qM) :=
  kp (sI m0 804 x0 0) fun m1 =>
  if x1 = 0 then (
    some (gA m1 (gR G 800 x0) 5, m1))
  else
  if x1 = 1 then (
    some (gA m1 (gR G 800 x0) 2, m1))
  else
  if x1 = 2 then (
    some (gA m1 (gR G 800 x0) 3, m1))
  else
  if x1 = 3 then (
    some (gA m1 (gR G 800 x0) 0, m1))
  else
  if x1 = 4 then (
    some (gA m1 (gR G 800 x0) 1, m1))
  else
  if x1 = 5 then (
    some (gA m1 (gR G 800 x0) 4, m1))
  else
  if x1 = 6 then (
    some (gI m1 822 x0, m1))
  else
  if x1 = 7 then (
    some (gA m1 (gR G 800 x0) 10, m1))
  else
  if x1 = 8 then (
    some (gA m1 (gR G 800 x0) 11, m1))
  else
  if x1 = 9 then (
    some (gA m1 (gR G 800 x0) 12, m1))
  else
  if x1 = 10 then (
    some (gA m1 (gR G 800 x0) 13, m1))
  else
  some ((-1), m1)
-- ProRataMarketModel.setOrder
def f_X8_setOrder (N : Nat) (G : qG)  (x0 : Nat) (x1 : Int) (x2 : Int) (x3 : Int) (m0 : qM) : Option (qM) :=
  ckI (6 * x1) fun v1 =>
  ckI (24 + v1) fun v2 =>
  ckI (v2 + x2) fun v3 =>
  wrA m0 (gR G 800 x0) v3 684 x3 fun m4 =>
  some m4
-- ProRataMarketModel.cuts
def f_X8_cuts (N : Nat) (G : qG)  (x0 : Nat) (x1 : Int) (x2 : Int) (m0 : qM) : Option (Int × qM) :=
  kb2 (f_X8_placeOf N G x0 x1 m0) fun v2 m1 =>
  if v2 < 0 then (
    some ((-1), m1))
  else (
    if x2 < 1 then (
      some ((-1), m1))
    else (
      kb2 (f_X8_ofOrder N G x0 v2 4 m1) fun v6 m5 =>
      if x2 < v6 then (
        kb2 (f_X8_ofOrder N G x0 v2 4 m5) fun v9 m8 =>
        kb2 (f_X8_ofOrder N G x0 v2 2 m8) fun v11 m10 =>
        kb (f_X8_setOrder N G x0 v2 4 x2 m10) fun m12 =>
        ckI (6 + v11) fun v14 =>
        rdA m12 (gR G 800 x0) v14 684 fun v15 =>
        if v15 = x1 then (
          kb (f_X8_lapses N G x0 v11 m12) fun m17 =>
          some (v9, m17))
        else (
          some (v9, m12)))
      else (
        some ((-1), m5))))
-- ProRataMarketModel.cut
def f_X8_cut (N : Nat) (G : qG)  (x0 : Nat) (x1 : Int) (x2 : Int) (m0 : qM) : Option (Int × qM) :=
  kp (sI m0 804 x0 0) fun m1 =>
  kb2 (f_X8_cuts N G x0 x1 x2 m1) fun v3 m2 =>
  some (v3, m2)
-- ProRataMarketModel.isAt
def f_X8_isAt (N : Nat) (G : qG)  (x0 : Nat) (x1 : Int) (x2 : Int) (x3 : Int) (m0 : qM) : Option (Int × qM) :=
  kb2 (f_X8_ofOrder N G x0 x1 2 m0) fun v2 m1 =>
  if v2 = x2 then (
    kb2 (f_X8_ofOrder N G x0 x1 3 m1) fun v5 m4 =>
    if v5 = x3 then (
      some (1, m4))
    else (
      some (0, m4)))
  else (
    some (0, m1))
-- ProRataMarketModel.hasOwn
def f_X8_hasOwn_37 (N : Nat) (G : qG) (k2 : (Nat → Int → Int → Int → qM → Option (Int × qM))) (x0 : Nat) (x1 : Int) (x2 : Int) (x3 : Int) (m0 : qM) : Option (Int × qM) :=
  ckI (x3 + 1) fun v1 =>
  k2 x0 x1 x2 v1 m0
def f_X8_hasOwn_2 (N : Nat) (G : qG) (k2 : (Nat → Int → Int → Int → qM → Option (Int × qM))) (x0 : Nat) (x1 : Int) (x2 : Int) (x3 : Int) (m0 : qM) : Option (Int × qM) :=
  if x3 < (gA m0 (gR G 800 x0) 5) then (
    kb2 (f_X8_isAt N G x0 x3 x1 x2 m0) fun v3 m2 =>
    if v3 = 0 then (
      f_X8_hasOwn_37 N G k2 x0 x1 x2 x3 m2)
    else (
      kb2 (f_X8_ofOrder N G x0 x3 1 m2) fun v6 m5 =>
      if v6 = (gI m5 812 x0) then (
        some (1, m5))
      else (
        f_X8_hasOwn_37 N G k2 x0 x1 x2 x3 m5)))
  else (
    some (0, m0))
def f_X8_hasOwn_L2 (N : Nat) (G : qG)  (x0 : Nat) (x1 : Int) (x2 : Int) (x3 : Int) (m0 : qM) : Option (Int × qM) :=
  qLoop (fun k p => f_X8_hasOwn_2 N G (fun x0 x1 x2 x3 m0 => k (x0, x1, x2, x3, m0)) p.1 p.2.1 p.2.2.1 p.2.2.2.1 p.2.2.2.2) N (x0, x1, x2, x3, m0)
def f_X8_hasOwn (N : Nat) (G : qG)  (x0 : Nat) (x1 : Int) (x2 : Int) (m0 : qM) : Option (Int × qM) :=
  f_X8_hasOwn_L2 N G  x0 x1 x2 0 m0
-- ProRataMarketModel.goes
def f_X8_goes_48 (N : Nat) (G : qG) (k48 : (Nat → Int → qM → Option (qM))) (x0 : Nat) (x3 : Int) (m0 : qM) : Option (qM) :=
  ckI (6 * (gA m0 (gR G 800 x0) 5)) fun v1 =>
  ckI (24 + v1) fun v2 =>
  if x3 < v2 then (
    ckI (x3 + 6) fun v4 =>
    rdA m0 (gR G 800 x0) v4 684 fun v5 =>
    wrA m0 (gR G 800 x0) x3 684 v5 fun m6 =>
    ckI (x3 + 1) fun v7 =>
    k48 x0 v7 m6)
  else (
    some m0)
def f_X8_goes_L48 (N : Nat) (G : qG)  (x0 : Nat) (x3 : Int) (m0 : qM) : Option (qM) :=
  qLoop (fun k p => f_X8_goes_48 N G (fun x0 x3 m0 => k (x0, x3, m0)) p.1 p.2.1 p.2.2) N (x0, x3, m0)
def f_X8_goes_30 (N : Nat) (G : qG)  (x0 : Nat) (x1 : Int) (m0 : qM) : Option (qM) :=
  ckI ((gA m0 (gR G 800 x0) 5) - 1) fun v1 =>
  kp (sA m0 (gR G 800 x0) 5 v1) fun m2 =>
  ckI (6 * x1) fun v3 =>
  ckI (24 + v3) fun v4 =>
  f_X8_goes_L48 N G  x0 v4 m2
def f_X8_goes (N : Nat) (G : qG)  (x0 : Nat) (x1 : Int) (m0 : qM) : Option (qM) :=
  kb2 (f_X8_ofOrder N G x0 x1 2 m0) fun v2 m1 =>
  ckI (6 + v2) fun v3 =>
  rdA m1 (gR G 800 x0) v3 684 fun v4 =>
  kb2 (f_X8_ofOrder N G x0 x1 0 m1) fun v6 m5 =>
  if v4 = v6 then (
    kb (f_X8_lapses N G x0 v2 m5) fun m8 =>
    f_X8_goes_30 N G  x0 x1 m8)
  else (
    f_X8_goes_30 N G  x0 x1 m5)
-- ProRataMarketModel.takesOwnOff
def f_X8_takesOwnOff_70 (N : Nat) (G : qG) (k9 : (Nat → Int → Int → Int → qM → Option (qM))) (x0 : Nat) (x1 : Int) (x2 : Int) (x3 : Int) (m0 : qM) : Option (qM) :=
  ckI (x3 + (-1)) fun v1 =>
  k9 x0 x1 x2 v1 m0
def f_X8_takesOwnOff_9 (N : Nat) (G : qG) (k9 : (Nat → Int → Int → Int → qM → Option (qM))) (x0 : Nat) (x1 : Int) (x2 : Int) (x3 : Int) (m0 : qM) : Option (qM) :=
  if x3 < 0 then (
    some m0)
  else (
    kb2 (f_X8_isAt N G x0 x3 x1 x2 m0) fun v3 m2 =>
    if v3 = 0 then (
      f_X8_takesOwnOff_70 N G k9 x0 x1 x2 x3 m2)
    else (
      kb2 (f_X8_ofOrder N G x0 x3 1 m2) fun v6 m5 =>
      if v6 = (gI m5 812 x0) then (
        kb2 (f_X8_ofOrder N G x0 x3 4 m5) fun v9 m8 =>
        kp (w32 ((gI m5 817 x0) + v9)) fun v10 =>
        kp (sI m8 817 x0 v10) fun m11 =>
        kp (w32 ((gA m11 (gR G 800 x0) 12) + 1)) fun v12 =>
        kp (sA m11 (gR G 800 x0) 12 v12) fun m13 =>
        kb (f_X8_goes N G x0 x3 m13) fun m14 =>
        f_X8_takesOwnOff_70 N G k9 x0 x1 x2 x3 m14)
      else (
        f_X8_takesOwnOff_70 N G k9 x0 x1 x2 x3 m5)))
def f_X8_takesOwnOff_L9 (N : Nat) (G : qG)  (x0 : Nat) (x1 : Int) (x2 : Int) (x3 : Int) (m0 : qM) : Option (qM) :=
  qLoop (fun k p => f_X8_takesOwnOff_9 N G (fun x0 x1 x2 x3 m0 => k (x0, x1, x2, x3, m0)) p.1 p.2.1 p.2.2.1 p.2.2.2.1 p.2.2.2.2) N (x0, x1, x2, x3, m0)
def f_X8_takesOwnOff (N : Nat) (G : qG)  (x0 : Nat) (x1 : Int) (x2 : Int) (m0 : qM) : Option (qM) :=
  ckI ((gA m0 (gR G 800 x0) 5) - 1) fun v1 =>
  f_X8_takesOwnOff_L9 N G  x0 x1 x2 v1 m0
-- ProRataMarketModel.makesLess
def f_X8_makesLess_47 (N : Nat) (G : qG) (k6 : (Nat → Int → Int → Int → Int → qM → Option (Int × qM))) (x0 : Nat) (x1 : Int) (x2 : Int) (x4 : Int) (x5 : Int) (m0 : qM) : Option (Int × qM) :=
  ckI (x5 + 1) fun v1 =>
  k6 x0 x1 x2 x4 v1 m0
def f_X8_makesLess_159 (N : Nat) (G : qG) (k6 : (Nat → Int → Int → Int → Int → qM → Option (Int × qM))) (x0 : Nat) (x1 : Int) (x2 : Int) (x4 : Int) (x5 : Int) (m0 : qM) : Option (Int × qM) :=
  k6 x0 x1 x2 x4 x5 m0
def f_X8_makesLess_77 (N : Nat) (G : qG) (k6 : (Nat → Int → Int → Int → Int → qM → Option (Int × qM))) (x0 : Nat) (x1 : Int) (x2 : Int) (x4 : Int) (x5 : Int) (s0 : Int) (m0 : qM) : Option (Int × qM) :=
  ckI (x4 - s0) fun v1 =>
  kp (w32 ((gI m0 817 x0) + s0)) fun v2 =>
  kp (sI m0 817 x0 v2) fun m3 =>
  kp (w32 ((gA m3 (gR G 800 x0) 13) + s0)) fun v4 =>
  kp (sA m3 (gR G 800 x0) 13 v4) fun m5 =>
  kb2 (f_X8_ofOrder N G x0 x5 4 m5) fun v7 m6 =>
  ckI (v7 - s0) fun v8 =>
  kb (f_X8_setOrder N G x0 x5 4 v8 m6) fun m9 =>
  kb2 (f_X8_ofOrder N G x0 x5 4 m9) fun v12 m11 =>
  if v12 = 0 then (
    kp (w32 ((gA m11 (gR G 800 x0) 12) + 1)) fun v15 =>
    kp (sA m11 (gR G 800 x0) 12 v15) fun m16 =>
    kb (f_X8_goes N G x0 x5 m16) fun m17 =>
    f_X8_makesLess_159 N G k6 x0 x1 x2 v1 x5 m17)
  else (
    ckI (x5 + 1) fun v14 =>
    f_X8_makesLess_159 N G k6 x0 x1 x2 v1 v14 m11)
def f_X8_makesLess_6 (N : Nat) (G : qG) (k6 : (Nat → Int → Int → Int → Int → qM → Option (Int × qM))) (x0 : Nat) (x1 : Int) (x2 : Int) (x4 : Int) (x5 : Int) (m0 : qM) : Option (Int × qM) :=
  if x5 < (gA m0 (gR G 800 x0) 5) then (
    if 0 < x4 then (
      kb2 (f_X8_isAt N G x0 x5 x1 x2 m0) fun v4 m3 =>
      if v4 = 0 then (
        f_X8_makesLess_47 N G k6 x0 x1 x2 x4 x5 m3)
      else (
        kb2 (f_X8_ofOrder N G x0 x5 1 m3) fun v7 m6 =>
        if v7 = (gI m6 812 x0) then (
          kb2 (f_X8_ofOrder N G x0 x5 4 m6) fun v10 m9 =>
          if v10 < x4 then (
            kb2 (f_X8_ofOrder N G x0 x5 4 m9) fun v13 m12 =>
            f_X8_makesLess_77 N G k6 x0 x1 x2 x4 x5 v13 m12)
          else (
            f_X8_makesLess_77 N G k6 x0 x1 x2 x4 x5 x4 m9))
        else (
          f_X8_makesLess_47 N G k6 x0 x1 x2 x4 x5 m6)))
    else (
      some (x4, m0)))
  else (
    some (x4, m0))
def f_X8_makesLess_L6 (N : Nat) (G : qG)  (x0 : Nat) (x1 : Int) (x2 : Int) (x4 : Int) (x5 : Int) (m0 : qM) : Option (Int × qM) :=
  qLoop (fun k p => f_X8_makesLess_6 N G (fun x0 x1 x2 x4 x5 m0 => k (x0, x1, x2, x4, x5, m0)) p.1 p.2.1 p.2.2.1 p.2.2.2.1 p.2.2.2.2.1 p.2.2.2.2.2) N (x0, x1, x2, x4, x5, m0)
def f_X8_makesLess (N : Nat) (G : qG)  (x0 : Nat) (x1 : Int) (x2 : Int) (x3 : Int) (m0 : qM) : Option (Int × qM) :=
  f_X8_makesLess_L6 N G  x0 x1 x2 x3 0 m0
-- ProRataMarketModel.sizesAt
def f_X8_sizesAt_37 (N : Nat) (G : qG) (k5 : (Nat → Int → Int → Int → Int → qM → Option (Int × qM))) (x0 : Nat) (x1 : Int) (x2 : Int) (x3 : Int) (x4 : Int) (m0 : qM) : Option (Int × qM) :=
  ckI (x4 + 1) fun v1 =>
  k5 x0 x1 x2 x3 v1 m0
def f_X8_sizesAt_5 (N : Nat) (G : qG) (k5 : (Nat → Int → Int → Int → Int → qM → Option (Int × qM))) (x0 : Nat) (x1 : Int) (x2 : Int) (x3 : Int) (x4 : Int) (m0 : qM) : Option (Int × qM) :=
  if x4 < (gA m0 (gR G 800 x0) 5) then (
    kb2 (f_X8_isAt N G x0 x4 x1 x2 m0) fun v3 m2 =>
    if v3 = 0 then (
      f_X8_sizesAt_37 N G k5 x0 x1 x2 x3 x4 m2)
    else (
      kb2 (f_X8_ofOrder N G x0 x4 4 m2) fun v6 m5 =>
      ckI (x3 + v6) fun v7 =>
      f_X8_sizesAt_37 N G k5 x0 x1 x2 v7 x4 m5))
  else (
    some (x3, m0))
def f_X8_sizesAt_L5 (N : Nat) (G : qG)  (x0 : Nat) (x1 : Int) (x2 : Int) (x3 : Int) (x4 : Int) (m0 : qM) : Option (Int × qM) :=
  qLoop (fun k p => f_X8_sizesAt_5 N G (fun x0 x1 x2 x3 x4 m0 => k (x0, x1, x2, x3, x4, m0)) p.1 p.2.1 p.2.2.1 p.2.2.2.1 p.2.2.2.2.1 p.2.2.2.2.2) N (x0, x1, x2, x3, x4, m0)
def f_X8_sizesAt (N : Nat) (G : qG)  (x0 : Nat) (x1 : Int) (x2 : Int) (m0 : qM) : Option (Int × qM) :=
  f_X8_sizesAt_L5 N G  x0 x1 x2 0 0 m0
-- ProRataMarketModel.lays
def f_X8_lays_65 (N : Nat) (G : qG) (k7 : (Nat → Int → Int → Int → qM → Option (qM))) (x0 : Nat) (x1 : Int) (x2 : Int) (x3 : Int) (m0 : qM) : Option (qM) :=
  ckI (x3 + 1) fun v1 =>
  k7 x0 x1 x2 v1 m0
def f_X8_lays_7 (N : Nat) (G : qG) (k7 : (Nat → Int → Int → Int → qM → Option (qM))) (x0 : Nat) (x1 : Int) (x2 : Int) (x3 : Int) (m0 : qM) : Option (qM) :=
  if x3 < (gA m0 (gR G 800 x0) 5) then (
    kb2 (f_X8_isAt N G x0 x3 x1 x2 m0) fun v3 m2 =>
    if v3 = 0 then (
      f_X8_lays_65 N G k7 x0 x1 x2 x3 m2)
    else (
      wrA m2 (gR G 806 x0) (gI m2 805 x0) 70 x3 fun m5 =>
      kb2 (f_X8_ofOrder N G x0 x3 4 m5) fun v7 m6 =>
      wrA m6 (gR G 807 x0) (gI m5 805 x0) 70 v7 fun m8 =>
      ckI ((gI m8 805 x0) + 1) fun v9 =>
      kp (sI m8 805 x0 v9) fun m10 =>
      f_X8_lays_65 N G k7 x0 x1 x2 x3 m10))
  else (
    some m0)
def f_X8_lays_L7 (N : Nat) (G : qG)  (x0 : Nat) (x1 : Int) (x2 : Int) (x3 : Int) (m0 : qM) : Option (qM) :=
  qLoop (fun k p => f_X8_lays_7 N G (fun x0 x1 x2 x3 m0 => k (x0, x1, x2, x3, m0)) p.1 p.2.1 p.2.2.1 p.2.2.2.1 p.2.2.2.2) N (x0, x1, x2, x3, m0)
def f_X8_lays (N : Nat) (G : qG)  (x0 : Nat) (x1 : Int) (x2 : Int) (m0 : qM) : Option (qM) :=
  kp (sI m0 805 x0 0) fun m1 =>
  f_X8_lays_L7 N G  x0 x1 x2 0 m1
-- ProRataMarketModel.topLaid
def f_X8_topLaid_44 (N : Nat) (G : qG) (k2 : (Nat → Int → Int → qM → Option (Int × qM))) (x0 : Nat) (x1 : Int) (x2 : Int) (m0 : qM) : Option (Int × qM) :=
  ckI (x2 + 1) fun v1 =>
  k2 x0 x1 v1 m0
def f_X8_topLaid_2 (N : Nat) (G : qG) (k2 : (Nat → Int → Int → qM → Option (Int × qM))) (x0 : Nat) (x1 : Int) (x2 : Int) (m0 : qM) : Option (Int × qM) :=
  if x2 < (gI m0 805 x0) then (
    rdA m0 (gR G 806 x0) x2 70 fun v2 =>
    if v2 < 0 then (
      f_X8_topLaid_44 N G k2 x0 x1 x2 m0)
    else (
      rdA m0 (gR G 806 x0) x2 70 fun v4 =>
      kb2 (f_X8_ofOrder N G x0 v4 0 m0) fun v6 m5 =>
      ckI (6 + x1) fun v7 =>
      rdA m5 (gR G 800 x0) v7 684 fun v8 =>
      if v6 = v8 then (
        some (x2, m5))
      else (
        f_X8_topLaid_44 N G k2 x0 x1 x2 m5)))
  else (
    some ((-1), m0))
def f_X8_topLaid_L2 (N : Nat) (G : qG)  (x0 : Nat) (x1 : Int) (x2 : Int) (m0 : qM) : Option (Int × qM) :=
  qLoop (fun k p => f_X8_topLaid_2 N G (fun x0 x1 x2 m0 => k (x0, x1, x2, m0)) p.1 p.2.1 p.2.2.1 p.2.2.2) N (x0, x1, x2, m0)
def f_X8_topLaid (N : Nat) (G : qG)  (x0 : Nat) (x1 : Int) (m0 : qM) : Option (Int × qM) :=
  f_X8_topLaid_L2 N G  x0 x1 0 m0
-- ProRataMarketModel.shares
def f_X8_shares_292 (N : Nat) (G : qG) (k238 : (Nat → Int → Int → qM → Option (qM))) (x0 : Nat) (x4 : Int) (x9 : Int) (s0 : Nat) (s1 : Int) (s2 : Int) (m0 : qM) : Option (qM) :=
  wrA m0 s0 s1 70 s2 fun m1 =>
  rdA m1 (gR G 810 x0) x9 70 fun v2 =>
  ckI (x4 - v2) fun v3 =>
  ckI (x9 + 1) fun v4 =>
  k238 x0 v3 v4 m1
def f_X8_shares_238 (N : Nat) (G : qG) (k238 : (Nat → Int → Int → qM → Option (qM))) (x0 : Nat) (x4 : Int) (x9 : Int) (m0 : qM) : Option (qM) :=
  if x9 < (gI m0 805 x0) then (
    rdA m0 (gR G 807 x0) x9 70 fun v2 =>
    rdA m0 (gR G 808 x0) x9 70 fun v3 =>
    ckI (v2 - v3) fun v4 =>
    rdA m0 (gR G 809 x0) x9 70 fun v5 =>
    ckI (v4 - v5) fun v6 =>
    if x4 < v6 then (
      f_X8_shares_292 N G k238 x0 x4 x9 (gR G 810 x0) x9 x4 m0)
    else (
      f_X8_shares_292 N G k238 x0 x4 x9 (gR G 810 x0) x9 v6 m0))
  else (
    some m0)
def f_X8_shares_L238 (N : Nat) (G : qG)  (x0 : Nat) (x4 : Int) (x9 : Int) (m0 : qM) : Option (qM) :=
  qLoop (fun k p => f_X8_shares_238 N G (fun x0 x4 x9 m0 => k (x0, x4, x9, m0)) p.1 p.2.1 p.2.2.1 p.2.2.2) N (x0, x4, x9, m0)
def f_X8_shares_235 (N : Nat) (G : qG)  (x0 : Nat) (x4 : Int) (m0 : qM) : Option (qM) :=
  f_X8_shares_L238 N G  x0 x4 0 m0
def f_X8_shares_216 (N : Nat) (G : qG) (k152 : (Nat → Int → Int → Int → Int → qM → Option (qM))) (x0 : Nat) (x4 : Int) (x5 : Int) (x7 : Int) (x9 : Int) (s0 : Nat) (s1 : Int) (s2 : Int) (m0 : qM) : Option (qM) :=
  wrA m0 s0 s1 70 s2 fun m1 =>
  rdA m1 (gR G 809 x0) x9 70 fun v2 =>
  ckI (x4 - v2) fun v3 =>
  ckI (x9 + 1) fun v4 =>
  k152 x0 v3 x5 x7 v4 m1
def f_X8_shares_152 (N : Nat) (G : qG) (k152 : (Nat → Int → Int → Int → Int → qM → Option (qM))) (x0 : Nat) (x4 : Int) (x5 : Int) (x7 : Int) (x9 : Int) (m0 : qM) : Option (qM) :=
  if x9 < (gI m0 805 x0) then (
    if 0 < x5 then (
      rdA m0 (gR G 807 x0) x9 70 fun v3 =>
      rdA m0 (gR G 808 x0) x9 70 fun v4 =>
      ckI (v3 - v4) fun v5 =>
      ckJ (x7 * v5) fun v6 =>
      ckD x5 <| ckJ (v6.tdiv x5) fun v7 =>
      ckI v7 fun v8 =>
      if v8 < (gA m0 (gR G 800 x0) 1) then (
        f_X8_shares_216 N G k152 x0 x4 x5 x7 x9 (gR G 809 x0) x9 0 m0)
      else (
        f_X8_shares_216 N G k152 x0 x4 x5 x7 x9 (gR G 809 x0) x9 v8 m0))
    else (
      f_X8_shares_235 N G  x0 x4 m0))
  else (
    f_X8_shares_235 N G  x0 x4 m0)
def f_X8_shares_L152 (N : Nat) (G : qG)  (x0 : Nat) (x4 : Int) (x5 : Int) (x7 : Int) (x9 : Int) (m0 : qM) : Option (qM) :=
  qLoop (fun k p => f_X8_shares_152 N G (fun x0 x4 x5 x7 x9 m0 => k (x0, x4, x5, x7, x9, m0)) p.1 p.2.1 p.2.2.1 p.2.2.2.1 p.2.2.2.2.1 p.2.2.2.2.2) N (x0, x4, x5, x7, x9, m0)
def f_X8_shares_108 (N : Nat) (G : qG) (k108 : (Nat → Int → Int → Int → qM → Option (qM))) (x0 : Nat) (x4 : Int) (x5 : Int) (x7 : Int) (m0 : qM) : Option (qM) :=
  if x7 < (gI m0 805 x0) then (
    rdA m0 (gR G 807 x0) x7 70 fun v2 =>
    rdA m0 (gR G 808 x0) x7 70 fun v3 =>
    ckI (v2 - v3) fun v4 =>
    ckJ (x5 + v4) fun v5 =>
    ckI (x7 + 1) fun v6 =>
    k108 x0 x4 v5 v6 m0)
  else (
    f_X8_shares_L152 N G  x0 x4 x5 x4 0 m0)
def f_X8_shares_L108 (N : Nat) (G : qG)  (x0 : Nat) (x4 : Int) (x5 : Int) (x7 : Int) (m0 : qM) : Option (qM) :=
  qLoop (fun k p => f_X8_shares_108 N G (fun x0 x4 x5 x7 m0 => k (x0, x4, x5, x7, m0)) p.1 p.2.1 p.2.2.1 p.2.2.2.1 p.2.2.2.2) N (x0, x4, x5, x7, m0)
def f_X8_shares_102 (N : Nat) (G : qG)  (x0 : Nat) (x4 : Int) (m0 : qM) : Option (qM) :=
  f_X8_shares_L108 N G  x0 x4 0 0 m0
def f_X8_shares_90 (N : Nat) (G : qG)  (x0 : Nat) (x2 : Int) (x4 : Int) (s0 : Nat) (s1 : Int) (s2 : Int) (m0 : qM) : Option (qM) :=
  wrA m0 s0 s1 70 s2 fun m1 =>
  rdA m1 (gR G 808 x0) x2 70 fun v2 =>
  ckI (x4 - v2) fun v3 =>
  f_X8_shares_102 N G  x0 v3 m1
def f_X8_shares_71 (N : Nat) (G : qG)  (x0 : Nat) (x2 : Int) (x3 : Int) (x4 : Int) (s0 : Int) (m0 : qM) : Option (qM) :=
  if s0 < x3 then (
    f_X8_shares_90 N G  x0 x2 x4 (gR G 808 x0) x2 s0 m0)
  else (
    f_X8_shares_90 N G  x0 x2 x4 (gR G 808 x0) x2 x3 m0)
def f_X8_shares_6 (N : Nat) (G : qG) (k6 : (Nat → Int → Int → Int → Int → qM → Option (qM))) (x0 : Nat) (x2 : Int) (x3 : Int) (x4 : Int) (x5 : Int) (m0 : qM) : Option (qM) :=
  if x5 < (gI m0 805 x0) then (
    wrA m0 (gR G 808 x0) x5 70 0 fun m6 =>
    wrA m6 (gR G 809 x0) x5 70 0 fun m7 =>
    wrA m7 (gR G 810 x0) x5 70 0 fun m8 =>
    ckI (x5 + 1) fun v9 =>
    k6 x0 x2 x3 x4 v9 m8)
  else (
    if x2 < 0 then (
      f_X8_shares_102 N G  x0 x4 m0)
    else (
      rdA m0 (gR G 807 x0) x2 70 fun v3 =>
      if x4 < v3 then (
        f_X8_shares_71 N G  x0 x2 x3 x4 x4 m0)
      else (
        rdA m0 (gR G 807 x0) x2 70 fun v5 =>
        f_X8_shares_71 N G  x0 x2 x3 x4 v5 m0)))
def f_X8_shares_L6 (N : Nat) (G : qG)  (x0 : Nat) (x2 : Int) (x3 : Int) (x4 : Int) (x5 : Int) (m0 : qM) : Option (qM) :=
  qLoop (fun k p => f_X8_shares_6 N G (fun x0 x2 x3 x4 x5 m0 => k (x0, x2, x3, x4, x5, m0)) p.1 p.2.1 p.2.2.1 p.2.2.2.1 p.2.2.2.2.1 p.2.2.2.2.2) N (x0, x2, x3, x4, x5, m0)
def f_X8_shares (N : Nat) (G : qG)  (x0 : Nat) (x1 : Int) (x2 : Int) (x3 : Int) (m0 : qM) : Option (qM) :=
  f_X8_shares_L6 N G  x0 x2 x3 x1 0 m0
-- ProRataMarketModel.tells
def f_X8_tells_5 (N : Nat) (G : qG) (k5 : (Nat → Int → Int → Int → Int → Int → Int → qM → Option (qM))) (x0 : Nat) (x1 : Int) (x2 : Int) (x3 : Int) (x4 : Int) (x5 : Int) (x6 : Int) (m0 : qM) : Option (qM) :=
  if x6 < 389 then (
    kp (sA m0 (gR G 800 x0) 384 x1) fun m2 =>
    kp (sA m2 (gR G 800 x0) 385 x2) fun m3 =>
    kp (sA m3 (gR G 800 x0) 386 x3) fun m4 =>
    kp (sA m4 (gR G 800 x0) 387 x4) fun m5 =>
    kp (sA m5 (gR G 800 x0) 388 x5) fun m6 =>
    if (gA m6 (gR G 800 x0) 10) < 60 then (
      ckI ((gA m6 (gR G 800 x0) 10) + 1) fun v8 =>
      kp (sA m6 (gR G 800 x0) 10 v8) fun m9 =>
      some m9)
    else (
      some m6))
  else (
    ckI (x6 - 5) fun v10 =>
    rdA m0 (gR G 800 x0) v10 684 fun v11 =>
    wrA m0 (gR G 800 x0) x6 684 v11 fun m12 =>
    ckI (x6 + (-1)) fun v13 =>
    k5 x0 x1 x2 x3 x4 x5 v13 m12)
def f_X8_tells_L5 (N : Nat) (G : qG)  (x0 : Nat) (x1 : Int) (x2 : Int) (x3 : Int) (x4 : Int) (x5 : Int) (x6 : Int) (m0 : qM) : Option (qM) :=
  qLoop (fun k p => f_X8_tells_5 N G (fun x0 x1 x2 x3 x4 x5 x6 m0 => k (x0, x1, x2, x3, x4, x5, x6, m0)) p.1 p.2.1 p.2.2.1 p.2.2.2.1 p.2.2.2.2.1 p.2.2.2.2.2.1 p.2.2.2.2.2.2.1 p.2.2.2.2.2.2.2) N (x0, x1, x2, x3, x4, x5, x6, m0)
def f_X8_tells (N : Nat) (G : qG)  (x0 : Nat) (x1 : Int) (x2 : Int) (x3 : Int) (x4 : Int) (x5 : Int) (m0 : qM) : Option (qM) :=
  f_X8_tells_L5 N G  x0 x1 x2 x3 x4 x5 683 m0
-- ProRataMarketModel.moves
def f_X8_moves_42 (N : Nat) (G : qG)  (x3 : Int) (x4 : Int) (s0 : Nat) (s1 : Int) (s2 : Int) (s3 : Int) (m0 : qM) : Option (qM) :=
  ckJ (s3 * x3) fun v1 =>
  ckJ (v1 * x4) fun v2 =>
  kp (w64 (s2 + v2)) fun v3 =>
  wrA m0 s0 s1 10 v3 fun m4 =>
  some m4
def f_X8_moves_22 (N : Nat) (G : qG)  (x0 : Nat) (x1 : Int) (x2 : Int) (x3 : Int) (x4 : Int) (s0 : Nat) (s1 : Int) (s2 : Int) (s3 : Int) (m0 : qM) : Option (qM) :=
  kp (w32 (s2 + s3)) fun v1 =>
  wrA m0 s0 s1 684 v1 fun m2 =>
  rdA m2 (gR G 802 x0) x1 10 fun v3 =>
  if x2 = 0 then (
    f_X8_moves_42 N G  x3 x4 (gR G 802 x0) x1 v3 (-1) m2)
  else (
    f_X8_moves_42 N G  x3 x4 (gR G 802 x0) x1 v3 1 m2)
def f_X8_moves (N : Nat) (G : qG)  (x0 : Nat) (x1 : Int) (x2 : Int) (x3 : Int) (x4 : Int) (m0 : qM) : Option (qM) :=
  ckI (14 + x1) fun v1 =>
  rdA m0 (gR G 800 x0) v1 684 fun v2 =>
  if x2 = 0 then (
    f_X8_moves_22 N G  x0 x1 x2 x3 x4 (gR G 800 x0) v1 v2 x4 m0)
  else (
    ckI (-x4) fun v4 =>
    f_X8_moves_22 N G  x0 x1 x2 x3 x4 (gR G 800 x0) v1 v2 v4 m0)
-- ProRataMarketModel.trades
def f_X8_trades (N : Nat) (G : qG)  (x0 : Nat) (x1 : Int) (x2 : Int) (x3 : Int) (x4 : Int) (m0 : qM) : Option (qM) :=
  if x3 = 0 then (
    some m0)
  else (
    rdA m0 (gR G 806 x0) x1 70 fun v2 =>
    kb2 (f_X8_ofOrder N G x0 v2 0 m0) fun v4 m3 =>
    kb (f_X8_tells N G x0 v4 (gI m3 811 x0) x2 x3 x4 m3) fun m5 =>
    kb2 (f_X8_ofOrder N G x0 v2 1 m5) fun v8 m7 =>
    ckI (1 - (gI m7 813 x0)) fun v9 =>
    kb (f_X8_moves N G x0 v8 v9 x2 x3 m7) fun m10 =>
    kb (f_X8_moves N G x0 (gI m10 812 x0) (gI m10 813 x0) x2 x3 m10) fun m12 =>
    kp (sA m12 (gR G 800 x0) 3 x2) fun m14 =>
    kp (w32 ((gA m14 (gR G 800 x0) 11) + x3)) fun v15 =>
    kp (sA m14 (gR G 800 x0) 11 v15) fun m16 =>
    kp (w32 ((gI m16 814 x0) + x3)) fun v17 =>
    kp (sI m16 814 x0 v17) fun m18 =>
    kp (sI m18 815 x0 x2) fun m19 =>
    ckJ (x3 * x2) fun v20 =>
    kp (w64 ((gI m19 816 x0) + v20)) fun v21 =>
    kp (sI m19 816 x0 v21) fun m22 =>
    some m22)
-- ProRataMarketModel.has
def f_X8_has (N : Nat) (G : qG)  (x0 : Nat) (x1 : Int) (m0 : qM) : Option (Int × qM) :=
  rdA m0 (gR G 808 x0) x1 70 fun v1 =>
  rdA m0 (gR G 809 x0) x1 70 fun v2 =>
  ckI (v1 + v2) fun v3 =>
  rdA m0 (gR G 810 x0) x1 70 fun v4 =>
  ckI (v3 + v4) fun v5 =>
  some (v5, m0)
-- ProRataMarketModel.settles
def f_X8_settles_92 (N : Nat) (G : qG) (k46 : (Nat → Int → qM → Option (qM))) (x0 : Nat) (x3 : Int) (m0 : qM) : Option (qM) :=
  ckI (x3 + (-1)) fun v1 =>
  k46 x0 v1 m0
def f_X8_settles_46 (N : Nat) (G : qG) (k46 : (Nat → Int → qM → Option (qM))) (x0 : Nat) (x3 : Int) (m0 : qM) : Option (qM) :=
  if x3 < 0 then (
    some m0)
  else (
    rdA m0 (gR G 807 x0) x3 70 fun v2 =>
    kb2 (f_X8_has N G x0 x3 m0) fun v4 m3 =>
    ckI (v2 - v4) fun v5 =>
    rdA m3 (gR G 806 x0) x3 70 fun v6 =>
    kb (f_X8_setOrder N G x0 v6 4 v5 m3) fun m7 =>
    if v5 = 0 then (
      rdA m7 (gR G 806 x0) x3 70 fun v10 =>
      kb (f_X8_goes N G x0 v10 m7) fun m11 =>
      f_X8_settles_92 N G k46 x0 x3 m11)
    else (
      f_X8_settles_92 N G k46 x0 x3 m7))
def f_X8_settles_L46 (N : Nat) (G : qG)  (x0 : Nat) (x3 : Int) (m0 : qM) : Option (qM) :=
  qLoop (fun k p => f_X8_settles_46 N G (fun x0 x3 m0 => k (x0, x3, m0)) p.1 p.2.1 p.2.2) N (x0, x3, m0)
def f_X8_settles_39 (N : Nat) (G : qG)  (x0 : Nat) (m0 : qM) : Option (qM) :=
  ckI ((gI m0 805 x0) - 1) fun v1 =>
  f_X8_settles_L46 N G  x0 v1 m0
def f_X8_settles (N : Nat) (G : qG)  (x0 : Nat) (x1 : Int) (x2 : Int) (m0 : qM) : Option (qM) :=
  if x2 < 0 then (
    f_X8_settles_39 N G  x0 m0)
  else (
    ckI (8 + x1) fun v2 =>
    rdA m0 (gR G 800 x0) v2 684 fun v3 =>
    rdA m0 (gR G 808 x0) x2 70 fun v4 =>
    ckI (v3 - v4) fun v5 =>
    wrA m0 (gR G 800 x0) v2 684 v5 fun m6 =>
    ckI (8 + x1) fun v7 =>
    rdA m6 (gR G 800 x0) v7 684 fun v8 =>
    if v8 = 0 then (
      kb (f_X8_lapses N G x0 x1 m6) fun m10 =>
      f_X8_settles_39 N G  x0 m10)
    else (
      f_X8_settles_39 N G  x0 m6))
-- ProRataMarketModel.takes
def f_X8_takes_98 (N : Nat) (G : qG) (k98 : (Nat → Int → Int → Int → Int → qM → Option (qM))) (x0 : Nat) (x1 : Int) (x2 : Int) (x4 : Int) (x5 : Int) (m0 : qM) : Option (qM) :=
  if x5 < (gI m0 805 x0) then (
    rdA m0 (gR G 810 x0) x5 70 fun v4 =>
    kb (f_X8_trades N G x0 x5 x2 v4 2 m0) fun m5 =>
    ckI (x5 + 1) fun v7 =>
    k98 x0 x1 x2 x4 v7 m5)
  else (
    kb (f_X8_settles N G x0 x1 x4 m0) fun m2 =>
    some m2)
def f_X8_takes_L98 (N : Nat) (G : qG)  (x0 : Nat) (x1 : Int) (x2 : Int) (x4 : Int) (x5 : Int) (m0 : qM) : Option (qM) :=
  qLoop (fun k p => f_X8_takes_98 N G (fun x0 x1 x2 x4 x5 m0 => k (x0, x1, x2, x4, x5, m0)) p.1 p.2.1 p.2.2.1 p.2.2.2.1 p.2.2.2.2.1 p.2.2.2.2.2) N (x0, x1, x2, x4, x5, m0)
def f_X8_takes_65 (N : Nat) (G : qG) (k65 : (Nat → Int → Int → Int → Int → qM → Option (qM))) (x0 : Nat) (x1 : Int) (x2 : Int) (x4 : Int) (x5 : Int) (m0 : qM) : Option (qM) :=
  if x5 < (gI m0 805 x0) then (
    rdA m0 (gR G 809 x0) x5 70 fun v2 =>
    kb (f_X8_trades N G x0 x5 x2 v2 1 m0) fun m3 =>
    ckI (x5 + 1) fun v5 =>
    k65 x0 x1 x2 x4 v5 m3)
  else (
    f_X8_takes_L98 N G  x0 x1 x2 x4 0 m0)
def f_X8_takes_L65 (N : Nat) (G : qG)  (x0 : Nat) (x1 : Int) (x2 : Int) (x4 : Int) (x5 : Int) (m0 : qM) : Option (qM) :=
  qLoop (fun k p => f_X8_takes_65 N G (fun x0 x1 x2 x4 x5 m0 => k (x0, x1, x2, x4, x5, m0)) p.1 p.2.1 p.2.2.1 p.2.2.2.1 p.2.2.2.2.1 p.2.2.2.2.2) N (x0, x1, x2, x4, x5, m0)
def f_X8_takes_32 (N : Nat) (G : qG) (k32 : (Nat → Int → Int → Int → Int → qM → Option (qM))) (x0 : Nat) (x1 : Int) (x2 : Int) (x4 : Int) (x5 : Int) (m0 : qM) : Option (qM) :=
  if x5 < (gI m0 805 x0) then (
    rdA m0 (gR G 808 x0) x5 70 fun v2 =>
    kb (f_X8_trades N G x0 x5 x2 v2 0 m0) fun m3 =>
    ckI (x5 + 1) fun v5 =>
    k32 x0 x1 x2 x4 v5 m3)
  else (
    f_X8_takes_L65 N G  x0 x1 x2 x4 0 m0)
def f_X8_takes_L32 (N : Nat) (G : qG)  (x0 : Nat) (x1 : Int) (x2 : Int) (x4 : Int) (x5 : Int) (m0 : qM) : Option (qM) :=
  qLoop (fun k p => f_X8_takes_32 N G (fun x0 x1 x2 x4 x5 m0 => k (x0, x1, x2, x4, x5, m0)) p.1 p.2.1 p.2.2.1 p.2.2.2.1 p.2.2.2.2.1 p.2.2.2.2.2) N (x0, x1, x2, x4, x5, m0)
def f_X8_takes (N : Nat) (G : qG)  (x0 : Nat) (x1 : Int) (x2 : Int) (x3 : Int) (m0 : qM) : Option (qM) :=
  kb (f_X8_lays N G x0 x1 x2 m0) fun m1 =>
  kb2 (f_X8_topLaid N G x0 x1 m1) fun v4 m3 =>
  ckI (8 + x1) fun v5 =>
  rdA m3 (gR G 800 x0) v5 684 fun v6 =>
  kb (f_X8_shares N G x0 x3 v4 v6 m3) fun m7 =>
  f_X8_takes_L32 N G  x0 x1 x2 v4 0 m7
-- ProRataMarketModel.meets
def f_X8_meets_143 (N : Nat) (G : qG) (k11 : (Nat → Int → Int → Int → Int → qM → Option (Int × qM))) (x0 : Nat) (x1 : Int) (x3 : Int) (x4 : Int) (x5 : Int) (x8 : Int) (m0 : qM) : Option (Int × qM) :=
  ckI (x4 - x8) fun v1 =>
  k11 x0 x1 x3 v1 x5 m0
def f_X8_meets_126 (N : Nat) (G : qG) (k11 : (Nat → Int → Int → Int → Int → qM → Option (Int × qM))) (x0 : Nat) (x1 : Int) (x3 : Int) (x4 : Int) (x5 : Int) (x6 : Int) (s0 : Int) (m0 : qM) : Option (Int × qM) :=
  if 0 < s0 then (
    kb (f_X8_takes N G x0 x5 x6 s0 m0) fun m2 =>
    f_X8_meets_143 N G k11 x0 x1 x3 x4 x5 s0 m2)
  else (
    f_X8_meets_143 N G k11 x0 x1 x3 x4 x5 s0 m0)
def f_X8_meets_102 (N : Nat) (G : qG) (k11 : (Nat → Int → Int → Int → Int → qM → Option (Int × qM))) (x0 : Nat) (x1 : Int) (x3 : Int) (x4 : Int) (x5 : Int) (x6 : Int) (m0 : qM) : Option (Int × qM) :=
  kb2 (f_X8_sizesAt N G x0 x5 x6 m0) fun v2 m1 =>
  if x4 < v2 then (
    f_X8_meets_126 N G k11 x0 x1 x3 x4 x5 x6 x4 m1)
  else (
    f_X8_meets_126 N G k11 x0 x1 x3 x4 x5 x6 v2 m1)
def f_X8_meets_73 (N : Nat) (G : qG) (k11 : (Nat → Int → Int → Int → Int → qM → Option (Int × qM))) (x0 : Nat) (x1 : Int) (x3 : Int) (x4 : Int) (x5 : Int) (x6 : Int) (m0 : qM) : Option (Int × qM) :=
  if x3 = 1 then (
    some (0, m0))
  else (
    if x3 = 2 then (
      some (0, m0))
    else (
      if x3 = 3 then (
        kb2 (f_X8_makesLess N G x0 x5 x6 x4 m0) fun v5 m4 =>
        f_X8_meets_102 N G k11 x0 x1 x3 v5 x5 x6 m4)
      else (
        f_X8_meets_102 N G k11 x0 x1 x3 x4 x5 x6 m0)))
def f_X8_meets_65 (N : Nat) (G : qG) (k11 : (Nat → Int → Int → Int → Int → qM → Option (Int × qM))) (x0 : Nat) (x1 : Int) (x3 : Int) (x4 : Int) (x5 : Int) (x6 : Int) (m0 : qM) : Option (Int × qM) :=
  kb (f_X8_takesOwnOff N G x0 x5 x6 m0) fun m1 =>
  f_X8_meets_73 N G k11 x0 x1 x3 x4 x5 x6 m1
def f_X8_meets_11 (N : Nat) (G : qG) (k11 : (Nat → Int → Int → Int → Int → qM → Option (Int × qM))) (x0 : Nat) (x1 : Int) (x3 : Int) (x4 : Int) (x5 : Int) (m0 : qM) : Option (Int × qM) :=
  if 0 < x4 then (
    kb2 (f_X8_bestOf N G x0 x5 m0) fun v3 m2 =>
    if v3 = 0 then (
      some (x4, m2))
    else (
      kb2 (f_X8_isBetter N G (gI m2 813 x0) v3 x1 m2) fun v6 m5 =>
      if v6 = 0 then (
        kb2 (f_X8_hasOwn N G x0 x5 v3 m5) fun v9 m8 =>
        if v9 = 0 then (
          f_X8_meets_102 N G k11 x0 x1 x3 x4 x5 v3 m8)
        else (
          if x3 = 0 then (
            f_X8_meets_65 N G k11 x0 x1 x3 x4 x5 v3 m8)
          else (
            if x3 = 2 then (
              f_X8_meets_65 N G k11 x0 x1 x3 x4 x5 v3 m8)
            else (
              f_X8_meets_73 N G k11 x0 x1 x3 x4 x5 v3 m8))))
      else (
        some (x4, m5))))
  else (
    some (0, m0))
def f_X8_meets_L11 (N : Nat) (G : qG)  (x0 : Nat) (x1 : Int) (x3 : Int) (x4 : Int) (x5 : Int) (m0 : qM) : Option (Int × qM) :=
  qLoop (fun k p => f_X8_meets_11 N G (fun x0 x1 x3 x4 x5 m0 => k (x0, x1, x3, x4, x5, m0)) p.1 p.2.1 p.2.2.1 p.2.2.2.1 p.2.2.2.2.1 p.2.2.2.2.2) N (x0, x1, x3, x4, x5, m0)
def f_X8_meets (N : Nat) (G : qG)  (x0 : Nat) (x1 : Int) (x2 : Int) (x3 : Int) (m0 : qM) : Option (Int × qM) :=
  ckI (1 - (gI m0 813 x0)) fun v1 =>
  f_X8_meets_L11 N G  x0 x1 x3 x2 v1 m0
-- ProRataMarketModel.rests
def f_X8_rests (N : Nat) (G : qG)  (x0 : Nat) (x1 : Int) (x2 : Int) (x3 : Int) (x4 : Int) (x5 : Int) (x6 : Int) (m0 : qM) : Option (qM) :=
  ckI ((gA m0 (gR G 800 x0) 5) + 1) fun v1 =>
  kp (sA m0 (gR G 800 x0) 5 v1) fun m2 =>
  kb (f_X8_setOrder N G x0 (gA m0 (gR G 800 x0) 5) 0 x1 m2) fun m3 =>
  kb (f_X8_setOrder N G x0 (gA m0 (gR G 800 x0) 5) 1 x2 m3) fun m5 =>
  kb (f_X8_setOrder N G x0 (gA m0 (gR G 800 x0) 5) 2 x3 m5) fun m7 =>
  kb (f_X8_setOrder N G x0 (gA m0 (gR G 800 x0) 5) 3 x4 m7) fun m9 =>
  kb (f_X8_setOrder N G x0 (gA m0 (gR G 800 x0) 5) 4 x5 m9) fun m11 =>
  kb (f_X8_setOrder N G x0 (gA m0 (gR G 800 x0) 5) 5 x6 m11) fun m13 =>
  some m13
-- ProRataMarketModel.trading
def f_X8_trading_78 (N : Nat) (G : qG)  (x0 : Nat) (x1 : Int) (x2 : Int) (x3 : Int) (x4 : Int) (x6 : Int) (s0 : Int) (m0 : qM) : Option (Int × qM) :=
  kb (f_X8_rests N G x0 (gI m0 811 x0) x1 x2 x3 x6 x4 m0) fun m1 =>
  if s0 = 0 then (
    some (x6, m1))
  else (
    ckI (6 + x2) fun v4 =>
    wrA m1 (gR G 800 x0) v4 684 (gI m1 811 x0) fun m5 =>
    ckI (8 + x2) fun v6 =>
    wrA m5 (gR G 800 x0) v6 684 (gA m5 (gR G 800 x0) 0) fun m7 =>
    some (x6, m7))
def f_X8_trading_77 (N : Nat) (G : qG)  (x0 : Nat) (x1 : Int) (x2 : Int) (x3 : Int) (x4 : Int) (x6 : Int) (m0 : qM) : Option (Int × qM) :=
  f_X8_trading_78 N G  x0 x1 x2 x3 x4 x6 0 m0
def f_X8_trading_73 (N : Nat) (G : qG)  (x0 : Nat) (x1 : Int) (x2 : Int) (x3 : Int) (x4 : Int) (x6 : Int) (m0 : qM) : Option (Int × qM) :=
  f_X8_trading_78 N G  x0 x1 x2 x3 x4 x6 1 m0
def f_X8_trading (N : Nat) (G : qG)  (x0 : Nat) (x1 : Int) (x2 : Int) (x3 : Int) (x4 : Int) (x5 : Int) (m0 : qM) : Option (Int × qM) :=
  kb (f_X8_comes N G x0 x1 x2 m0) fun m1 =>
  kb2 (f_X8_meets N G x0 x3 x4 x5 m1) fun v4 m3 =>
  if v4 = 0 then (
    some (0, m3))
  else (
    if (gA m3 (gR G 800 x0) 5) = 60 then (
      some (0, m3))
    else (
      kb2 (f_X8_bestOf N G x0 x2 m3) fun v8 m7 =>
      if v4 = x4 then (
        if 0 < (gA m7 (gR G 800 x0) 0) then (
          if v8 = 0 then (
            f_X8_trading_73 N G  x0 x1 x2 x3 x4 v4 m7)
          else (
            kb2 (f_X8_isBetter N G x2 x3 v8 m7) fun v13 m12 =>
            if v13 = 0 then (
              f_X8_trading_77 N G  x0 x1 x2 x3 x4 v4 m12)
            else (
              f_X8_trading_73 N G  x0 x1 x2 x3 x4 v4 m12)))
        else (
          f_X8_trading_77 N G  x0 x1 x2 x3 x4 v4 m7))
      else (
        f_X8_trading_77 N G  x0 x1 x2 x3 x4 v4 m7)))
-- ProRataMarketModel.orders
def f_X8_orders (N : Nat) (G : qG)  (x0 : Nat) (x1 : Int) (x2 : Int) (x3 : Int) (x4 : Int) (x5 : Int) (m0 : qM) : Option (Int × qM) :=
  if (gA m0 (gR G 800 x0) 2) = 0 then (
    kb2 (f_X8_trading N G x0 x1 x2 x3 x4 x5 m0) fun v8 m7 =>
    if v8 < 0 then (
      some ((-1), m7))
    else (
      some (gI m7 811 x0, m7)))
  else (
    if (gA m0 (gR G 800 x0) 5) = 60 then (
      some ((-3), m0))
    else (
      kb (f_X8_comes N G x0 x1 x2 m0) fun m3 =>
      kb (f_X8_rests N G x0 (gI m3 811 x0) x1 x2 x3 x4 x4 m3) fun m5 =>
      some (gI m5 811 x0, m5)))
-- ProRataMarketModel.takesOff
def f_X8_takesOff (N : Nat) (G : qG)  (x0 : Nat) (x1 : Int) (m0 : qM) : Option (Int × qM) :=
  kb2 (f_X8_placeOf N G x0 x1 m0) fun v2 m1 =>
  if v2 < 0 then (
    some ((-1), m1))
  else (
    kb2 (f_X8_ofOrder N G x0 v2 4 m1) fun v5 m4 =>
    kb (f_X8_goes N G x0 v2 m4) fun m6 =>
    some (v5, m6))
-- ProRataMarketModel.sets
def f_X8_sets (N : Nat) (G : qG)  (x0 : Nat) (x1 : Int) (x2 : Int) (x3 : Int) (x4 : Int) (m0 : qM) : Option (Int × qM) :=
  kb2 (f_X8_within N G x2 x3 x4 m0) fun v2 m1 =>
  if v2 = 0 then (
    some ((-1), m1))
  else (
    rdA m1 (gR G 800 x0) x1 684 fun v4 =>
    wrA m1 (gR G 800 x0) x1 684 x2 fun m5 =>
    some (v4, m5))
-- ProRataMarketModel.opens
def f_X8_opens (N : Nat) (G : qG)  (x0 : Nat) (x1 : Int) (x2 : Int) (x3 : Int) (m0 : qM) : Option (qM) :=
  if x2 = 0 then (
    some m0)
  else (
    rdA m0 (gR G 806 x0) x1 70 fun v2 =>
    kb2 (f_X8_ofOrder N G x0 v2 0 m0) fun v4 m3 =>
    kb (f_X8_tells N G x0 v4 0 (gI m3 818 x0) x2 x3 m3) fun m5 =>
    kb2 (f_X8_ofOrder N G x0 v2 1 m5) fun v8 m7 =>
    kb2 (f_X8_ofOrder N G x0 v2 2 m7) fun v10 m9 =>
    kb (f_X8_moves N G x0 v8 v10 (gI m9 818 x0) x2 m9) fun m11 =>
    some m11)
-- ProRataMarketModel.opensSide
def f_X8_opensSide_184 (N : Nat) (G : qG) (k5 : (Nat → Int → Int → qM → Option (qM))) (x0 : Nat) (x1 : Int) (s0 : Int) (s1 : Int) (m0 : qM) : Option (qM) :=
  ckI (s0 - s1) fun v1 =>
  kb (f_X8_settles N G x0 x1 (-1) m0) fun m2 =>
  k5 x0 x1 v1 m2
def f_X8_opensSide_171 (N : Nat) (G : qG) (k5 : (Nat → Int → Int → qM → Option (qM))) (x0 : Nat) (x1 : Int) (x2 : Int) (x4 : Int) (m0 : qM) : Option (qM) :=
  if x4 < x2 then (
    f_X8_opensSide_184 N G k5 x0 x1 x2 x4 m0)
  else (
    f_X8_opensSide_184 N G k5 x0 x1 x2 x2 m0)
def f_X8_opensSide_142 (N : Nat) (G : qG) (k5 : (Nat → Int → Int → qM → Option (qM))) (k142 : (Nat → Int → Int → Int → Int → qM → Option (qM))) (x0 : Nat) (x1 : Int) (x2 : Int) (x4 : Int) (x5 : Int) (m0 : qM) : Option (qM) :=
  if x5 < (gI m0 805 x0) then (
    rdA m0 (gR G 810 x0) x5 70 fun v2 =>
    kb (f_X8_opens N G x0 x5 v2 2 m0) fun m3 =>
    ckI (x5 + 1) fun v5 =>
    k142 x0 x1 x2 x4 v5 m3)
  else (
    f_X8_opensSide_171 N G k5 x0 x1 x2 x4 m0)
def f_X8_opensSide_L142 (N : Nat) (G : qG) (k5 : (Nat → Int → Int → qM → Option (qM))) (x0 : Nat) (x1 : Int) (x2 : Int) (x4 : Int) (x5 : Int) (m0 : qM) : Option (qM) :=
  qLoop (fun k p => f_X8_opensSide_142 N G k5 (fun x0 x1 x2 x4 x5 m0 => k (x0, x1, x2, x4, x5, m0)) p.1 p.2.1 p.2.2.1 p.2.2.2.1 p.2.2.2.2.1 p.2.2.2.2.2) N (x0, x1, x2, x4, x5, m0)
def f_X8_opensSide_110 (N : Nat) (G : qG) (k5 : (Nat → Int → Int → qM → Option (qM))) (k110 : (Nat → Int → Int → Int → Int → qM → Option (qM))) (x0 : Nat) (x1 : Int) (x2 : Int) (x4 : Int) (x5 : Int) (m0 : qM) : Option (qM) :=
  if x5 < (gI m0 805 x0) then (
    rdA m0 (gR G 809 x0) x5 70 fun v2 =>
    kb (f_X8_opens N G x0 x5 v2 1 m0) fun m3 =>
    ckI (x5 + 1) fun v5 =>
    k110 x0 x1 x2 x4 v5 m3)
  else (
    f_X8_opensSide_L142 N G k5 x0 x1 x2 x4 0 m0)
def f_X8_opensSide_L110 (N : Nat) (G : qG) (k5 : (Nat → Int → Int → qM → Option (qM))) (x0 : Nat) (x1 : Int) (x2 : Int) (x4 : Int) (x5 : Int) (m0 : qM) : Option (qM) :=
  qLoop (fun k p => f_X8_opensSide_110 N G k5 (fun x0 x1 x2 x4 x5 m0 => k (x0, x1, x2, x4, x5, m0)) p.1 p.2.1 p.2.2.1 p.2.2.2.1 p.2.2.2.2.1 p.2.2.2.2.2) N (x0, x1, x2, x4, x5, m0)
def f_X8_opensSide_38 (N : Nat) (G : qG) (k5 : (Nat → Int → Int → qM → Option (qM))) (k38 : (Nat → Int → Int → Int → Int → qM → Option (qM))) (x0 : Nat) (x1 : Int) (x2 : Int) (x4 : Int) (x5 : Int) (m0 : qM) : Option (qM) :=
  if x5 < (gI m0 805 x0) then (
    wrA m0 (gR G 808 x0) x5 70 0 fun m2 =>
    rdA m2 (gR G 807 x0) x5 70 fun v3 =>
    wrA m2 (gR G 809 x0) x5 70 v3 fun m4 =>
    wrA m4 (gR G 810 x0) x5 70 0 fun m5 =>
    rdA m5 (gR G 807 x0) x5 70 fun v6 =>
    kb (f_X8_opens N G x0 x5 v6 3 m5) fun m7 =>
    ckI (x5 + 1) fun v9 =>
    k38 x0 x1 x2 x4 v9 m7)
  else (
    f_X8_opensSide_171 N G k5 x0 x1 x2 x4 m0)
def f_X8_opensSide_L38 (N : Nat) (G : qG) (k5 : (Nat → Int → Int → qM → Option (qM))) (x0 : Nat) (x1 : Int) (x2 : Int) (x4 : Int) (x5 : Int) (m0 : qM) : Option (qM) :=
  qLoop (fun k p => f_X8_opensSide_38 N G k5 (fun x0 x1 x2 x4 x5 m0 => k (x0, x1, x2, x4, x5, m0)) p.1 p.2.1 p.2.2.1 p.2.2.2.1 p.2.2.2.2.1 p.2.2.2.2.2) N (x0, x1, x2, x4, x5, m0)
def f_X8_opensSide_5 (N : Nat) (G : qG) (k5 : (Nat → Int → Int → qM → Option (qM))) (x0 : Nat) (x1 : Int) (x2 : Int) (m0 : qM) : Option (qM) :=
  if 0 < x2 then (
    kb2 (f_X8_bestOf N G x0 x1 m0) fun v3 m2 =>
    kb (f_X8_lays N G x0 x1 v3 m2) fun m4 =>
    kb2 (f_X8_sizesAt N G x0 x1 v3 m4) fun v7 m6 =>
    if x2 < v7 then (
      kb (f_X8_shares N G x0 x2 (-1) 0 m6) fun m9 =>
      f_X8_opensSide_L110 N G k5 x0 x1 x2 v7 0 m9)
    else (
      f_X8_opensSide_L38 N G k5 x0 x1 x2 v7 0 m6))
  else (
    some m0)
def f_X8_opensSide_L5 (N : Nat) (G : qG)  (x0 : Nat) (x1 : Int) (x2 : Int) (m0 : qM) : Option (qM) :=
  qLoop (fun k p => f_X8_opensSide_5 N G (fun x0 x1 x2 m0 => k (x0, x1, x2, m0)) p.1 p.2.1 p.2.2.1 p.2.2.2) N (x0, x1, x2, m0)
def f_X8_opensSide (N : Nat) (G : qG)  (x0 : Nat) (x1 : Int) (m0 : qM) : Option (qM) :=
  f_X8_opensSide_L5 N G  x0 x1 (gI m0 819 x0) m0
-- ProRataMarketModel.opening
def f_X8_opening (N : Nat) (G : qG)  (x0 : Nat) (m0 : qM) : Option (Int × qM) :=
  if (gA m0 (gR G 800 x0) 2) = 0 then (
    some ((-1), m0))
  else (
    kp (sA m0 (gR G 800 x0) 2 0) fun m2 =>
    kb (f_X8_clearing N G x0 m2) fun m3 =>
    if (gI m3 819 x0) = 0 then (
      some (0, m3))
    else (
      kb (f_X8_opensSide N G x0 0 m3) fun m6 =>
      kb (f_X8_opensSide N G x0 1 m6) fun m8 =>
      kp (sA m8 (gR G 800 x0) 3 (gI m8 818 x0)) fun m10 =>
      kp (w32 ((gA m10 (gR G 800 x0) 11) + (gI m10 819 x0))) fun v11 =>
      kp (sA m10 (gR G 800 x0) 11 v11) fun m12 =>
      some (gI m12 819 x0, m12)))
-- ProRataMarketModel.does
def f_X8_does (N : Nat) (G : qG)  (x0 : Nat) (x1 : Int) (m0 : qM) : Option (Int × qM) :=
  ckI (5 * x1) fun v1 =>
  ckI (v1 + 1) fun v2 =>
  rdA m0 (gR G 830 x0) v2 650 fun v3 =>
  ckI (5 * x1) fun v4 =>
  ckI (v4 + 2) fun v5 =>
  rdA m0 (gR G 830 x0) v5 650 fun v6 =>
  ckI (5 * x1) fun v7 =>
  rdA m0 (gR G 830 x0) v7 650 fun v8 =>
  if v8 = 0 then (
    ckI (5 * x1) fun v10 =>
    rdA m0 (gR G 830 x0) v10 650 fun v11 =>
    ckI (5 * x1) fun v12 =>
    ckI (v12 + 3) fun v13 =>
    rdA m0 (gR G 830 x0) v13 650 fun v14 =>
    ckI (5 * x1) fun v15 =>
    ckI (v15 + 4) fun v16 =>
    rdA m0 (gR G 830 x0) v16 650 fun v17 =>
    kb2 (f_X8_orders N G x0 v3 v11 v14 v6 v17 m0) fun v19 m18 =>
    if 0 < v19 then (
      some (1, m18))
    else (
      some (0, m18)))
  else
  if v8 = 1 then (
    ckI (5 * x1) fun v22 =>
    rdA m0 (gR G 830 x0) v22 650 fun v23 =>
    ckI (5 * x1) fun v24 =>
    ckI (v24 + 3) fun v25 =>
    rdA m0 (gR G 830 x0) v25 650 fun v26 =>
    ckI (5 * x1) fun v27 =>
    ckI (v27 + 4) fun v28 =>
    rdA m0 (gR G 830 x0) v28 650 fun v29 =>
    kb2 (f_X8_orders N G x0 v3 v23 v26 v6 v29 m0) fun v31 m30 =>
    if 0 < v31 then (
      some (1, m30))
    else (
      some (0, m30)))
  else
  if v8 = 2 then (
    kb2 (f_X8_takesOff N G x0 v3 m0) fun v35 m34 =>
    if 0 < v35 then (
      some (1, m34))
    else (
      some (0, m34)))
  else
  if v8 = 3 then (
    kb2 (f_X8_cuts N G x0 v3 v6 m0) fun v39 m38 =>
    if 0 < v39 then (
      some (1, m38))
    else (
      some (0, m38)))
  else
  if v8 = 4 then (
    kb2 (f_X8_sets N G x0 0 v3 0 1000 m0) fun v43 m42 =>
    if v43 < 0 then (
      some (0, m42))
    else (
      some (1, m42)))
  else
  if v8 = 5 then (
    kb2 (f_X8_sets N G x0 1 v3 1 50 m0) fun v47 m46 =>
    if v47 < 0 then (
      some (0, m46))
    else (
      some (1, m46)))
  else
  if v8 = 6 then (
    kb2 (f_X8_calls N G x0 m0) fun v51 m50 =>
    some (v51, m50))
  else
  kb2 (f_X8_opening N G x0 m0) fun v53 m52 =>
  if v53 < 0 then (
    some (0, m52))
  else (
    some (1, m52))
-- ProRataMarketModel.puts
def f_X8_puts_3 (N : Nat) (G : qG) (k3 : (Nat → Int → Int → qM → Option (qM))) (x0 : Nat) (x1 : Int) (x2 : Int) (m0 : qM) : Option (qM) :=
  if x2 < 0 then (
    some m0)
  else (
    kp (iShr x1 x2) fun v2 =>
    kp (iByte v2) fun v3 =>
    wrB m0 (gR G 821 x0) (gI m0 822 x0) 500 v3 fun m4 =>
    ckI ((gI m4 822 x0) + 1) fun v5 =>
    kp (sI m4 822 x0 v5) fun m6 =>
    ckI (x2 + (-8)) fun v7 =>
    k3 x0 x1 v7 m6)
def f_X8_puts_L3 (N : Nat) (G : qG)  (x0 : Nat) (x1 : Int) (x2 : Int) (m0 : qM) : Option (qM) :=
  qLoop (fun k p => f_X8_puts_3 N G (fun x0 x1 x2 m0 => k (x0, x1, x2, m0)) p.1 p.2.1 p.2.2.1 p.2.2.2) N (x0, x1, x2, m0)
def f_X8_puts (N : Nat) (G : qG)  (x0 : Nat) (x1 : Int) (m0 : qM) : Option (qM) :=
  f_X8_puts_L3 N G  x0 x1 24 m0
-- ProRataMarketModel.feed
def f_X8_feed (N : Nat) (G : qG)  (x0 : Nat) (x1 : Int) (x2 : Int) (x3 : Int) (x4 : Int) (x5 : Int) (m0 : qM) : Option (Int × qM) :=
  kp (sI m0 804 x0 0) fun m1 =>
  ckI ((gI m1 822 x0) + 20) fun v2 =>
  if 500 < v2 then (
    some ((-1), m1))
  else (
    kb (f_X8_puts N G x0 x1 m1) fun m4 =>
    kb (f_X8_puts N G x0 x2 m4) fun m6 =>
    kb (f_X8_puts N G x0 x3 m6) fun m8 =>
    kb (f_X8_puts N G x0 x4 m8) fun m10 =>
    kb (f_X8_puts N G x0 x5 m10) fun m12 =>
    some (gI m12 822 x0, m12))
-- ProRataMarketModel.grant
def f_X8_grant (N : Nat) (G : qG)  (x0 : Nat) (x1 : Int) (m0 : qM) : Option (Int × qM) :=
  kp (sI m0 804 x0 0) fun m1 =>
  kb2 (f_X8_sets N G x0 0 x1 0 1000 m1) fun v3 m2 =>
  some (v3, m2)
-- ProRataMarketModel.isInt
def f_X8_isInt (N : Nat) (G : qG)  (x0 : Int) (x1 : Int) (m0 : qM) : Option (Int × qM) :=
  ckJ (x0 * x1) fun v1 =>
  if 2147483647 < v1 then (
    some (0, m0))
  else (
    some (1, m0))
-- ProRataMarketModel.isOrder
def f_X8_isOrder (N : Nat) (G : qG)  (x0 : Int) (x1 : Int) (x2 : Int) (x3 : Int) (x4 : Int) (m0 : qM) : Option (Int × qM) :=
  kb2 (f_X8_within N G x0 0 9 m0) fun v2 m1 =>
  if v2 = 0 then (
    some (0, m1))
  else (
    kb2 (f_X8_within N G x1 0 1 m1) fun v5 m4 =>
    if v5 = 0 then (
      some (0, m4))
    else (
      kb2 (f_X8_within N G x2 1 9999999 m4) fun v8 m7 =>
      if v8 = 0 then (
        some (0, m7))
      else (
        kb2 (f_X8_within N G x3 1 1000 m7) fun v11 m10 =>
        if v11 = 0 then (
          some (0, m10))
        else (
          kb2 (f_X8_within N G x4 0 3 m10) fun v14 m13 =>
          if v14 = 0 then (
            some (0, m13))
          else (
            some (1, m13))))))
-- ProRataMarketModel.see
def f_X8_see (N : Nat) (G : qG)  (x0 : Nat) (x1 : Int) (m0 : qM) : Option (Int × qM) :=
  if x1 < (gI m0 823 x0) then (
    rdA m0 (gR G 821 x0) x1 500 fun v2 =>
    kp (iAnd v2 255) fun v3 =>
    some (v3, m0))
  else (
    some ((-1), m0))
-- ProRataMarketModel.isWord
def f_X8_isWord_127 (N : Nat) (G : qG)   (m0 : qM) : Option (Int × qM) :=
  some (1, m0)
def f_X8_isWord_106 (N : Nat) (G : qG)  (x0 : Nat) (x5 : Int) (x6 : Int) (m0 : qM) : Option (Int × qM) :=
  if x6 < 5 then (
    f_X8_isWord_127 N G   m0)
  else (
    ckI ((gI m0 824 x0) + 4) fun v2 =>
    kb2 (f_X8_see N G x0 v2 m0) fun v4 m3 =>
    if v4 = x5 then (
      f_X8_isWord_127 N G   m3)
    else (
      some (0, m3)))
def f_X8_isWord_19 (N : Nat) (G : qG)  (x0 : Nat) (x1 : Int) (x2 : Int) (x3 : Int) (x4 : Int) (x5 : Int) (s0 : Int) (m0 : qM) : Option (Int × qM) :=
  if (gI m0 826 x0) = 1 then (
    ckI ((gI m0 825 x0) - (gI m0 824 x0)) fun v2 =>
    if v2 = s0 then (
      kb2 (f_X8_see N G x0 (gI m0 824 x0) m0) fun v5 m4 =>
      if v5 = x1 then (
        ckI ((gI m4 824 x0) + 1) fun v7 =>
        kb2 (f_X8_see N G x0 v7 m4) fun v9 m8 =>
        if v9 = x2 then (
          ckI ((gI m8 824 x0) + 2) fun v11 =>
          kb2 (f_X8_see N G x0 v11 m8) fun v13 m12 =>
          if v13 = x3 then (
            if s0 < 4 then (
              f_X8_isWord_106 N G  x0 x5 s0 m12)
            else (
              ckI ((gI m12 824 x0) + 3) fun v16 =>
              kb2 (f_X8_see N G x0 v16 m12) fun v18 m17 =>
              if v18 = x4 then (
                f_X8_isWord_106 N G  x0 x5 s0 m17)
              else (
                some (0, m17))))
          else (
            some (0, m12)))
        else (
          some (0, m8)))
      else (
        some (0, m4)))
    else (
      some (0, m0)))
  else (
    some (0, m0))
def f_X8_isWord (N : Nat) (G : qG)  (x0 : Nat) (x1 : Int) (x2 : Int) (x3 : Int) (x4 : Int) (x5 : Int) (m0 : qM) : Option (Int × qM) :=
  if 0 < x5 then (
    f_X8_isWord_19 N G  x0 x1 x2 x3 x4 x5 5 m0)
  else (
    if 0 < x4 then (
      f_X8_isWord_19 N G  x0 x1 x2 x3 x4 x5 4 m0)
    else (
      f_X8_isWord_19 N G  x0 x1 x2 x3 x4 x5 3 m0))
-- ProRataMarketModel.kindHere
def f_X8_kindHere (N : Nat) (G : qG)  (x0 : Nat) (m0 : qM) : Option (Int × qM) :=
  kb2 (f_X8_isWord N G x0 98 117 121 0 0 m0) fun v2 m1 =>
  if v2 = 0 then (
    kb2 (f_X8_isWord N G x0 115 101 108 108 0 m1) fun v5 m4 =>
    if v5 = 0 then (
      kb2 (f_X8_isWord N G x0 111 102 102 0 0 m4) fun v8 m7 =>
      if v8 = 0 then (
        kb2 (f_X8_isWord N G x0 99 117 116 0 0 m7) fun v11 m10 =>
        if v11 = 0 then (
          kb2 (f_X8_isWord N G x0 103 114 97 110 116 m10) fun v14 m13 =>
          if v14 = 0 then (
            kb2 (f_X8_isWord N G x0 108 101 97 115 116 m13) fun v17 m16 =>
            if v17 = 0 then (
              kb2 (f_X8_isWord N G x0 99 97 108 108 0 m16) fun v20 m19 =>
              if v20 = 0 then (
                kb2 (f_X8_isWord N G x0 111 112 101 110 0 m19) fun v23 m22 =>
                if v23 = 0 then (
                  some ((-1), m22))
                else (
                  some (7, m22)))
              else (
                some (6, m19)))
            else (
              some (5, m16)))
          else (
            some (4, m13)))
        else (
          some (3, m10)))
      else (
        some (2, m7)))
    else (
      some (1, m4)))
  else (
    some (0, m1))
-- ProRataMarketModel.laidInAll
def f_X8_laidInAll_4 (N : Nat) (G : qG) (k4 : (Nat → Int → Int → qM → Option (Int × qM))) (x0 : Nat) (x1 : Int) (x2 : Int) (m0 : qM) : Option (Int × qM) :=
  if x2 < (gI m0 805 x0) then (
    rdA m0 (gR G 807 x0) x2 70 fun v2 =>
    ckI (x1 + v2) fun v3 =>
    ckI (x2 + 1) fun v4 =>
    k4 x0 v3 v4 m0)
  else (
    some (x1, m0))
def f_X8_laidInAll_L4 (N : Nat) (G : qG)  (x0 : Nat) (x1 : Int) (x2 : Int) (m0 : qM) : Option (Int × qM) :=
  qLoop (fun k p => f_X8_laidInAll_4 N G (fun x0 x1 x2 m0 => k (x0, x1, x2, m0)) p.1 p.2.1 p.2.2.1 p.2.2.2) N (x0, x1, x2, m0)
def f_X8_laidInAll (N : Nat) (G : qG)  (x0 : Nat) (m0 : qM) : Option (Int × qM) :=
  f_X8_laidInAll_L4 N G  x0 0 0 m0
-- ProRataMarketModel.laysFor
def f_X8_laysFor_30 (N : Nat) (G : qG) (k30 : (Nat → Int → Int → qM → Option (Int × qM))) (x0 : Nat) (x2 : Int) (x3 : Int) (m0 : qM) : Option (Int × qM) :=
  rdA m0 (gR G 806 x0) x3 70 fun v1 =>
  if v1 = x2 then (
    some (x3, m0))
  else (
    ckI (x3 + 1) fun v3 =>
    k30 x0 x2 v3 m0)
def f_X8_laysFor_L30 (N : Nat) (G : qG)  (x0 : Nat) (x2 : Int) (x3 : Int) (m0 : qM) : Option (Int × qM) :=
  qLoop (fun k p => f_X8_laysFor_30 N G (fun x0 x2 x3 m0 => k (x0, x2, x3, m0)) p.1 p.2.1 p.2.2.1 p.2.2.2) N (x0, x2, x3, m0)
def f_X8_laysFor (N : Nat) (G : qG)  (x0 : Nat) (x1 : Int) (m0 : qM) : Option (Int × qM) :=
  kb2 (f_X8_placeOf N G x0 x1 m0) fun v2 m1 =>
  if v2 < 0 then (
    some ((-1), m1))
  else (
    kb2 (f_X8_ofOrder N G x0 v2 2 m1) fun v5 m4 =>
    kb2 (f_X8_ofOrder N G x0 v2 3 m4) fun v7 m6 =>
    kb (f_X8_lays N G x0 v5 v7 m6) fun m8 =>
    f_X8_laysFor_L30 N G  x0 v2 0 m8)
-- ProRataMarketModel.least
def f_X8_least (N : Nat) (G : qG)  (x0 : Nat) (x1 : Int) (m0 : qM) : Option (Int × qM) :=
  kp (sI m0 804 x0 0) fun m1 =>
  kb2 (f_X8_sets N G x0 1 x1 1 50 m1) fun v3 m2 =>
  some (v3, m2)
-- ProRataMarketModel.priceBehind
def f_X8_priceBehind_73 (N : Nat) (G : qG) (k5 : (Nat → Int → Int → Int → Int → qM → Option (Int × qM))) (x0 : Nat) (x1 : Int) (x2 : Int) (x3 : Int) (x4 : Int) (m0 : qM) : Option (Int × qM) :=
  ckI (x4 + 1) fun v1 =>
  k5 x0 x1 x2 x3 v1 m0
def f_X8_priceBehind_70 (N : Nat) (G : qG) (k5 : (Nat → Int → Int → Int → Int → qM → Option (Int × qM))) (x0 : Nat) (x1 : Int) (x2 : Int) (x4 : Int) (x5 : Int) (m0 : qM) : Option (Int × qM) :=
  f_X8_priceBehind_73 N G k5 x0 x1 x2 x5 x4 m0
def f_X8_priceBehind_56 (N : Nat) (G : qG) (k5 : (Nat → Int → Int → Int → Int → qM → Option (Int × qM))) (x0 : Nat) (x1 : Int) (x2 : Int) (x3 : Int) (x4 : Int) (x5 : Int) (m0 : qM) : Option (Int × qM) :=
  if x3 = 0 then (
    f_X8_priceBehind_70 N G k5 x0 x1 x2 x4 x5 m0)
  else (
    kb2 (f_X8_isBetter N G x1 x5 x3 m0) fun v3 m2 =>
    if v3 = 0 then (
      f_X8_priceBehind_73 N G k5 x0 x1 x2 x3 x4 m2)
    else (
      f_X8_priceBehind_70 N G k5 x0 x1 x2 x4 x5 m2))
def f_X8_priceBehind_5 (N : Nat) (G : qG) (k5 : (Nat → Int → Int → Int → Int → qM → Option (Int × qM))) (x0 : Nat) (x1 : Int) (x2 : Int) (x3 : Int) (x4 : Int) (m0 : qM) : Option (Int × qM) :=
  if x4 < (gA m0 (gR G 800 x0) 5) then (
    kb2 (f_X8_ofOrder N G x0 x4 2 m0) fun v3 m2 =>
    if v3 = x1 then (
      kb2 (f_X8_ofOrder N G x0 x4 3 m2) fun v6 m5 =>
      if x2 = 0 then (
        f_X8_priceBehind_56 N G k5 x0 x1 x2 x3 x4 v6 m5)
      else (
        kb2 (f_X8_isBetter N G x1 x2 v6 m5) fun v9 m8 =>
        if v9 = 0 then (
          f_X8_priceBehind_73 N G k5 x0 x1 x2 x3 x4 m8)
        else (
          f_X8_priceBehind_56 N G k5 x0 x1 x2 x3 x4 v6 m8)))
    else (
      f_X8_priceBehind_73 N G k5 x0 x1 x2 x3 x4 m2))
  else (
    some (x3, m0))
def f_X8_priceBehind_L5 (N : Nat) (G : qG)  (x0 : Nat) (x1 : Int) (x2 : Int) (x3 : Int) (x4 : Int) (m0 : qM) : Option (Int × qM) :=
  qLoop (fun k p => f_X8_priceBehind_5 N G (fun x0 x1 x2 x3 x4 m0 => k (x0, x1, x2, x3, x4, m0)) p.1 p.2.1 p.2.2.1 p.2.2.2.1 p.2.2.2.2.1 p.2.2.2.2.2) N (x0, x1, x2, x3, x4, m0)
def f_X8_priceBehind (N : Nat) (G : qG)  (x0 : Nat) (x1 : Int) (x2 : Int) (m0 : qM) : Option (Int × qM) :=
  f_X8_priceBehind_L5 N G  x0 x1 x2 0 0 m0
-- ProRataMarketModel.ordersAt
def f_X8_ordersAt_30 (N : Nat) (G : qG) (k5 : (Nat → Int → Int → Int → Int → qM → Option (Int × qM))) (x0 : Nat) (x1 : Int) (x2 : Int) (x3 : Int) (x4 : Int) (m0 : qM) : Option (Int × qM) :=
  ckI (x4 + 1) fun v1 =>
  k5 x0 x1 x2 x3 v1 m0
def f_X8_ordersAt_5 (N : Nat) (G : qG) (k5 : (Nat → Int → Int → Int → Int → qM → Option (Int × qM))) (x0 : Nat) (x1 : Int) (x2 : Int) (x3 : Int) (x4 : Int) (m0 : qM) : Option (Int × qM) :=
  if x4 < (gA m0 (gR G 800 x0) 5) then (
    kb2 (f_X8_isAt N G x0 x4 x1 x2 m0) fun v3 m2 =>
    if v3 = 0 then (
      f_X8_ordersAt_30 N G k5 x0 x1 x2 x3 x4 m2)
    else (
      ckI (x3 + 1) fun v5 =>
      f_X8_ordersAt_30 N G k5 x0 x1 x2 v5 x4 m2))
  else (
    some (x3, m0))
def f_X8_ordersAt_L5 (N : Nat) (G : qG)  (x0 : Nat) (x1 : Int) (x2 : Int) (x3 : Int) (x4 : Int) (m0 : qM) : Option (Int × qM) :=
  qLoop (fun k p => f_X8_ordersAt_5 N G (fun x0 x1 x2 x3 x4 m0 => k (x0, x1, x2, x3, x4, m0)) p.1 p.2.1 p.2.2.1 p.2.2.2.1 p.2.2.2.2.1 p.2.2.2.2.2) N (x0, x1, x2, x3, x4, m0)
def f_X8_ordersAt (N : Nat) (G : qG)  (x0 : Nat) (x1 : Int) (x2 : Int) (m0 : qM) : Option (Int × qM) :=
  f_X8_ordersAt_L5 N G  x0 x1 x2 0 0 m0
-- ProRataMarketModel.level
def f_X8_level_45 (N : Nat) (G : qG) (k45 : (Nat → Int → Int → Int → Int → Int → qM → Option (Int × qM))) (x0 : Nat) (x1 : Int) (x2 : Int) (x3 : Int) (x4 : Int) (x5 : Int) (m0 : qM) : Option (Int × qM) :=
  if 0 < x5 then (
    if x4 = x2 then (
      if x3 = 0 then (
        some (x5, m0))
      else (
        if x3 = 1 then (
          kb2 (f_X8_sizesAt N G x0 x1 x5 m0) fun v12 m11 =>
          some (v12, m11))
        else (
          kb2 (f_X8_ordersAt N G x0 x1 x5 m0) fun v10 m9 =>
          some (v10, m9))))
    else (
      ckI (x4 + 1) fun v4 =>
      kb2 (f_X8_priceBehind N G x0 x1 x5 m0) fun v6 m5 =>
      k45 x0 x1 x2 x3 v4 v6 m5))
  else (
    if x2 = (-1) then (
      some (x4, m0))
    else (
      some ((-1), m0)))
def f_X8_level_L45 (N : Nat) (G : qG)  (x0 : Nat) (x1 : Int) (x2 : Int) (x3 : Int) (x4 : Int) (x5 : Int) (m0 : qM) : Option (Int × qM) :=
  qLoop (fun k p => f_X8_level_45 N G (fun x0 x1 x2 x3 x4 x5 m0 => k (x0, x1, x2, x3, x4, x5, m0)) p.1 p.2.1 p.2.2.1 p.2.2.2.1 p.2.2.2.2.1 p.2.2.2.2.2.1 p.2.2.2.2.2.2) N (x0, x1, x2, x3, x4, x5, m0)
def f_X8_level (N : Nat) (G : qG)  (x0 : Nat) (x1 : Int) (x2 : Int) (x3 : Int) (m0 : qM) : Option (Int × qM) :=
  kp (sI m0 804 x0 0) fun m1 =>
  kb2 (f_X8_within N G x1 0 1 m1) fun v3 m2 =>
  if v3 = 0 then (
    some ((-1), m2))
  else (
    kb2 (f_X8_within N G x3 0 2 m2) fun v6 m5 =>
    if v6 = 0 then (
      some ((-1), m5))
    else (
      if x2 < (-1) then (
        some ((-1), m5))
      else (
        kb2 (f_X8_priceBehind N G x0 x1 0 m5) fun v10 m9 =>
        f_X8_level_L45 N G  x0 x1 x2 x3 0 v10 m9)))
-- ProRataMarketModel.steps
def f_X8_steps_34 (N : Nat) (G : qG) (k8 : (Nat → qM → Option (qM))) (x0 : Nat) (m0 : qM) : Option (qM) :=
  ckI ((gI m0 824 x0) + 1) fun v1 =>
  kp (sI m0 824 x0 v1) fun m2 =>
  k8 x0 m2
def f_X8_steps_259 (N : Nat) (G : qG) (k197 : (Nat → qM → Option (qM))) (x0 : Nat) (s0 : Nat) (s1 : Int) (m0 : qM) : Option (qM) :=
  kp (sI m0 827 s0 s1) fun m1 =>
  ckI ((gI m1 825 x0) + 1) fun v2 =>
  kp (sI m1 825 x0 v2) fun m3 =>
  k197 x0 m3
def f_X8_steps_197 (N : Nat) (G : qG) (k197 : (Nat → qM → Option (qM))) (x0 : Nat) (m0 : qM) : Option (qM) :=
  kb2 (f_X8_see N G x0 (gI m0 825 x0) m0) fun v2 m1 =>
  kb2 (f_X8_within N G v2 48 57 m1) fun v4 m3 =>
  if v4 = 0 then (
    ckI ((gI m3 825 x0) - (gI m3 824 x0)) fun v6 =>
    if v6 < 8 then (
      kp (sI m3 826 x0 2) fun m9 =>
      some m9)
    else (
      kp (sI m3 826 x0 4) fun m8 =>
      some m8))
  else (
    ckI ((gI m3 825 x0) - (gI m3 824 x0)) fun v10 =>
    if v10 < 7 then (
      ckI (10 * (gI m3 827 x0)) fun v12 =>
      kb2 (f_X8_see N G x0 (gI m3 825 x0) m3) fun v14 m13 =>
      ckI (v12 + v14) fun v15 =>
      ckI (v15 - 48) fun v16 =>
      f_X8_steps_259 N G k197 x0 x0 v16 m13)
    else (
      f_X8_steps_259 N G k197 x0 x0 (gI m3 827 x0) m3))
def f_X8_steps_L197 (N : Nat) (G : qG)  (x0 : Nat) (m0 : qM) : Option (qM) :=
  qLoop (fun k p => f_X8_steps_197 N G (fun x0 m0 => k (x0, m0)) p.1 p.2) N (x0, m0)
def f_X8_steps_133 (N : Nat) (G : qG) (k133 : (Nat → qM → Option (qM))) (x0 : Nat) (m0 : qM) : Option (qM) :=
  kb2 (f_X8_see N G x0 (gI m0 825 x0) m0) fun v2 m1 =>
  kb2 (f_X8_within N G v2 97 122 m1) fun v4 m3 =>
  if v4 = 0 then (
    kp (sI m3 826 x0 1) fun m6 =>
    some m6)
  else (
    ckI ((gI m3 825 x0) + 1) fun v7 =>
    kp (sI m3 825 x0 v7) fun m8 =>
    k133 x0 m8)
def f_X8_steps_L133 (N : Nat) (G : qG)  (x0 : Nat) (m0 : qM) : Option (qM) :=
  qLoop (fun k p => f_X8_steps_133 N G (fun x0 m0 => k (x0, m0)) p.1 p.2) N (x0, m0)
def f_X8_steps_8 (N : Nat) (G : qG) (k8 : (Nat → qM → Option (qM))) (x0 : Nat) (m0 : qM) : Option (qM) :=
  kb2 (f_X8_see N G x0 (gI m0 824 x0) m0) fun v2 m1 =>
  if v2 = 32 then (
    f_X8_steps_34 N G k8 x0 m1)
  else (
    kb2 (f_X8_see N G x0 (gI m1 824 x0) m1) fun v5 m4 =>
    if v5 = 10 then (
      f_X8_steps_34 N G k8 x0 m4)
    else (
      kb2 (f_X8_see N G x0 (gI m4 824 x0) m4) fun v8 m7 =>
      ckI ((gI m7 824 x0) + 1) fun v9 =>
      kp (sI m7 825 x0 v9) fun m10 =>
      kp (sI m10 826 x0 4) fun m11 =>
      kp (sI m11 827 x0 0) fun m12 =>
      if v8 = (-1) then (
        kp (sI m12 825 x0 (gI m12 824 x0)) fun m24 =>
        kp (sI m24 826 x0 0) fun m25 =>
        some m25)
      else (
        if v8 = 59 then (
          kp (sI m12 826 x0 3) fun m23 =>
          some m23)
        else (
          kb2 (f_X8_within N G v8 97 122 m12) fun v16 m15 =>
          if v16 = 0 then (
            kb2 (f_X8_within N G v8 48 57 m15) fun v19 m18 =>
            if v19 = 0 then (
              some m18)
            else (
              kp (sI m18 825 x0 (gI m18 824 x0)) fun m21 =>
              f_X8_steps_L197 N G  x0 m21))
          else (
            kp (sI m15 825 x0 (gI m15 824 x0)) fun m22 =>
            f_X8_steps_L133 N G  x0 m22)))))
def f_X8_steps_L8 (N : Nat) (G : qG)  (x0 : Nat) (m0 : qM) : Option (qM) :=
  qLoop (fun k p => f_X8_steps_8 N G (fun x0 m0 => k (x0, m0)) p.1 p.2) N (x0, m0)
def f_X8_steps (N : Nat) (G : qG)  (x0 : Nat) (m0 : qM) : Option (qM) :=
  kp (sI m0 824 x0 (gI m0 825 x0)) fun m1 =>
  f_X8_steps_L8 N G  x0 m1
-- ProRataMarketModel.must
def f_X8_must_24 (N : Nat) (G : qG)  (x0 : Nat) (m0 : qM) : Option (Int × qM) :=
  if (gI m0 828 x0) = 0 then (
    some (1, m0))
  else (
    some (0, m0))
def f_X8_must (N : Nat) (G : qG)  (x0 : Nat) (x1 : Int) (x2 : Int) (m0 : qM) : Option (Int × qM) :=
  if (gI m0 828 x0) = 0 then (
    if x1 = 0 then (
      kp (sI m0 828 x0 x2) fun m3 =>
      kp (sI m3 829 x0 (gI m3 824 x0)) fun m4 =>
      f_X8_must_24 N G  x0 m4)
    else (
      f_X8_must_24 N G  x0 m0))
  else (
    f_X8_must_24 N G  x0 m0)
-- ProRataMarketModel.reads
def f_X8_reads_14 (N : Nat) (G : qG)  (x0 : Nat) (x1 : Int) (x2 : Int) (x3 : Int) (s0 : Nat) (s1 : Int) (m0 : qM) : Option (Int × qM) :=
  kb2 (f_X8_must N G s0 s1 1 m0) fun v2 m1 =>
  if v2 = 0 then (
    some (0, m1))
  else (
    kb2 (f_X8_within N G (gI m1 827 x0) x2 x3 m1) fun v5 m4 =>
    kb2 (f_X8_must N G x0 v5 2 m4) fun v7 m6 =>
    if v7 = 0 then (
      some (0, m6))
    else (
      ckI (5 * (gI m6 831 x0)) fun v9 =>
      ckI (v9 + x1) fun v10 =>
      wrA m6 (gR G 830 x0) v10 650 (gI m6 827 x0) fun m11 =>
      kb (f_X8_steps N G x0 m11) fun m12 =>
      some (1, m12)))
def f_X8_reads (N : Nat) (G : qG)  (x0 : Nat) (x1 : Int) (x2 : Int) (x3 : Int) (m0 : qM) : Option (Int × qM) :=
  if (gI m0 826 x0) = 2 then (
    f_X8_reads_14 N G  x0 x1 x2 x3 x0 1 m0)
  else (
    f_X8_reads_14 N G  x0 x1 x2 x3 x0 0 m0)
-- ProRataMarketModel.readsOrder
def f_X8_readsOrder_236 (N : Nat) (G : qG)  (x0 : Nat) (x1 : Int) (s0 : Nat) (s1 : Int) (m0 : qM) : Option (Int × qM) :=
  kb2 (f_X8_must N G s0 s1 1 m0) fun v2 m1 =>
  if v2 = 0 then (
    some (0, m1))
  else (
    ckI (5 * (gI m1 831 x0)) fun v4 =>
    ckI (v4 + 4) fun v5 =>
    wrA m1 (gR G 830 x0) v5 650 x1 fun m6 =>
    kb (f_X8_steps N G x0 m6) fun m7 =>
    some (1, m7))
def f_X8_readsOrder_225 (N : Nat) (G : qG)  (x0 : Nat) (s0 : Int) (m0 : qM) : Option (Int × qM) :=
  if s0 < 0 then (
    f_X8_readsOrder_236 N G  x0 s0 x0 0 m0)
  else (
    f_X8_readsOrder_236 N G  x0 s0 x0 1 m0)
def f_X8_readsOrder_90 (N : Nat) (G : qG)  (x0 : Nat) (s0 : Nat) (s1 : Int) (m0 : qM) : Option (Int × qM) :=
  kb2 (f_X8_must N G s0 s1 2 m0) fun v2 m1 =>
  if v2 = 0 then (
    some (0, m1))
  else (
    ckI (5 * (gI m1 831 x0)) fun v4 =>
    ckI (v4 + 3) fun v5 =>
    wrA m1 (gR G 830 x0) v5 650 (gI m1 827 x0) fun m6 =>
    ckI (5 * (gI m6 831 x0)) fun v7 =>
    ckI (v7 + 4) fun v8 =>
    wrA m6 (gR G 830 x0) v8 650 0 fun m9 =>
    kb (f_X8_steps N G x0 m9) fun m10 =>
    if (gI m10 826 x0) = 1 then (
      kb2 (f_X8_isWord N G x0 114 101 115 116 0 m10) fun v14 m13 =>
      if v14 = 0 then (
        kb2 (f_X8_isWord N G x0 99 111 109 101 0 m13) fun v17 m16 =>
        if v17 = 0 then (
          kb2 (f_X8_isWord N G x0 98 111 116 104 0 m16) fun v20 m19 =>
          if v20 = 0 then (
            kb2 (f_X8_isWord N G x0 108 101 115 115 0 m19) fun v23 m22 =>
            if v23 = 0 then (
              f_X8_readsOrder_225 N G  x0 (-1) m22)
            else (
              f_X8_readsOrder_225 N G  x0 3 m22))
          else (
            f_X8_readsOrder_225 N G  x0 2 m19))
        else (
          f_X8_readsOrder_225 N G  x0 1 m16))
      else (
        f_X8_readsOrder_225 N G  x0 0 m13))
    else (
      some (1, m10)))
def f_X8_readsOrder_89 (N : Nat) (G : qG)  (x0 : Nat) (s0 : Nat) (m0 : qM) : Option (Int × qM) :=
  f_X8_readsOrder_90 N G  x0 s0 0 m0
def f_X8_readsOrder_39 (N : Nat) (G : qG)  (x0 : Nat) (s0 : Nat) (s1 : Int) (m0 : qM) : Option (Int × qM) :=
  kb2 (f_X8_must N G s0 s1 1 m0) fun v2 m1 =>
  if v2 = 0 then (
    some (0, m1))
  else (
    kb2 (f_X8_within N G (gI m1 827 x0) 1 9999999 m1) fun v5 m4 =>
    if v5 = 0 then (
      f_X8_readsOrder_89 N G  x0 x0 m4)
    else (
      ckI (5 * (gI m4 831 x0)) fun v7 =>
      ckI (v7 + 2) fun v8 =>
      rdA m4 (gR G 830 x0) v8 650 fun v9 =>
      kb2 (f_X8_isInt N G (gI m4 827 x0) v9 m4) fun v11 m10 =>
      if v11 = 0 then (
        f_X8_readsOrder_89 N G  x0 x0 m10)
      else (
        f_X8_readsOrder_90 N G  x0 x0 1 m10)))
def f_X8_readsOrder (N : Nat) (G : qG)  (x0 : Nat) (m0 : qM) : Option (Int × qM) :=
  kb2 (f_X8_reads N G x0 1 0 9 m0) fun v2 m1 =>
  if v2 = 0 then (
    some (0, m1))
  else (
    kb2 (f_X8_reads N G x0 2 1 1000 m1) fun v5 m4 =>
    if v5 = 0 then (
      some (0, m4))
    else (
      if (gI m4 826 x0) = 2 then (
        f_X8_readsOrder_39 N G  x0 x0 1 m4)
      else (
        f_X8_readsOrder_39 N G  x0 x0 0 m4)))
-- ProRataMarketModel.readsLine
def f_X8_readsLine_15 (N : Nat) (G : qG)  (x0 : Nat) (x1 : Int) (s0 : Nat) (s1 : Int) (m0 : qM) : Option (Int × qM) :=
  kb2 (f_X8_must N G s0 s1 1 m0) fun v2 m1 =>
  if v2 = 0 then (
    some (0, m1))
  else (
    ckI (5 * (gI m1 831 x0)) fun v4 =>
    wrA m1 (gR G 830 x0) v4 650 x1 fun m5 =>
    kb (f_X8_steps N G x0 m5) fun m6 =>
    if x1 = 0 then (
      kb2 (f_X8_readsOrder N G x0 m6) fun v10 m9 =>
      some (v10, m9))
    else
    if x1 = 1 then (
      kb2 (f_X8_readsOrder N G x0 m6) fun v13 m12 =>
      some (v13, m12))
    else
    if x1 = 2 then (
      kb2 (f_X8_reads N G x0 1 1 9999999 m6) fun v16 m15 =>
      some (v16, m15))
    else
    if x1 = 3 then (
      kb2 (f_X8_reads N G x0 1 1 9999999 m6) fun v19 m18 =>
      if v19 = 0 then (
        some (0, m18))
      else (
        kb2 (f_X8_reads N G x0 2 1 1000 m18) fun v22 m21 =>
        if v22 = 0 then (
          some (0, m21))
        else (
          some (1, m21))))
    else
    if x1 = 4 then (
      kb2 (f_X8_reads N G x0 1 0 1000 m6) fun v26 m25 =>
      some (v26, m25))
    else
    if x1 = 5 then (
      kb2 (f_X8_reads N G x0 1 1 50 m6) fun v29 m28 =>
      some (v29, m28))
    else
    some (1, m6))
def f_X8_readsLine (N : Nat) (G : qG)  (x0 : Nat) (m0 : qM) : Option (Int × qM) :=
  kb2 (f_X8_kindHere N G x0 m0) fun v2 m1 =>
  if v2 < 0 then (
    f_X8_readsLine_15 N G  x0 v2 x0 0 m1)
  else (
    f_X8_readsLine_15 N G  x0 v2 x0 1 m1)
-- ProRataMarketModel.message
def f_X8_message_173 (N : Nat) (G : qG) (k152 : (Nat → Int → Int → qM → Option (Int × qM))) (x0 : Nat) (x3 : Int) (x4 : Int) (m0 : qM) : Option (Int × qM) :=
  ckI (x4 + 1) fun v1 =>
  k152 x0 x3 v1 m0
def f_X8_message_152 (N : Nat) (G : qG) (k152 : (Nat → Int → Int → qM → Option (Int × qM))) (x0 : Nat) (x3 : Int) (x4 : Int) (m0 : qM) : Option (Int × qM) :=
  if x4 < (gI m0 831 x0) then (
    kb2 (f_X8_does N G x0 x4 m0) fun v3 m2 =>
    if v3 = 0 then (
      f_X8_message_173 N G k152 x0 x3 x4 m2)
    else (
      ckI (x3 + 1) fun v5 =>
      f_X8_message_173 N G k152 x0 v5 x4 m2))
  else (
    some (x3, m0))
def f_X8_message_L152 (N : Nat) (G : qG)  (x0 : Nat) (x3 : Int) (x4 : Int) (m0 : qM) : Option (Int × qM) :=
  qLoop (fun k p => f_X8_message_152 N G (fun x0 x3 x4 m0 => k (x0, x3, x4, m0)) p.1 p.2.1 p.2.2.1 p.2.2.2) N (x0, x3, x4, m0)
def f_X8_message_112 (N : Nat) (G : qG) (k52 : (Nat → Int → qM → Option (Int × qM))) (x0 : Nat) (s0 : Int) (m0 : qM) : Option (Int × qM) :=
  if s0 = 0 then (
    k52 x0 s0 m0)
  else (
    kb (f_X8_steps N G x0 m0) fun m2 =>
    k52 x0 s0 m2)
def f_X8_message_111 (N : Nat) (G : qG) (k52 : (Nat → Int → qM → Option (Int × qM))) (x0 : Nat) (m0 : qM) : Option (Int × qM) :=
  f_X8_message_112 N G k52 x0 0 m0
def f_X8_message_100 (N : Nat) (G : qG) (k52 : (Nat → Int → qM → Option (Int × qM))) (x0 : Nat) (s0 : Nat) (s1 : Int) (m0 : qM) : Option (Int × qM) :=
  kb2 (f_X8_must N G s0 s1 1 m0) fun v2 m1 =>
  if v2 = 0 then (
    f_X8_message_111 N G k52 x0 m1)
  else (
    f_X8_message_112 N G k52 x0 1 m1)
def f_X8_message_75 (N : Nat) (G : qG) (k52 : (Nat → Int → qM → Option (Int × qM))) (x0 : Nat) (x2 : Int) (m0 : qM) : Option (Int × qM) :=
  if x2 = 0 then (
    f_X8_message_111 N G k52 x0 m0)
  else (
    if (gI m0 826 x0) = 0 then (
      f_X8_message_111 N G k52 x0 m0)
    else (
      if (gI m0 826 x0) = 3 then (
        f_X8_message_100 N G k52 x0 x0 1 m0)
      else (
        f_X8_message_100 N G k52 x0 x0 0 m0)))
def f_X8_message_52 (N : Nat) (G : qG) (k52 : (Nat → Int → qM → Option (Int × qM))) (x0 : Nat) (x2 : Int) (m0 : qM) : Option (Int × qM) :=
  if x2 = 0 then (
    if 0 < (gI m0 828 x0) then (
      ckI (8 * (gI m0 829 x0)) fun v3 =>
      ckI (v3 + (gI m0 828 x0)) fun v4 =>
      ckI ((-2) - v4) fun v5 =>
      some (v5, m0))
    else (
      f_X8_message_L152 N G  x0 0 0 m0))
  else (
    kb2 (f_X8_readsLine N G x0 m0) fun v7 m6 =>
    if v7 = 0 then (
      f_X8_message_75 N G k52 x0 v7 m6)
    else (
      ckI ((gI m6 831 x0) + 1) fun v9 =>
      kp (sI m6 831 x0 v9) fun m10 =>
      f_X8_message_75 N G k52 x0 v7 m10))
def f_X8_message_L52 (N : Nat) (G : qG)  (x0 : Nat) (x2 : Int) (m0 : qM) : Option (Int × qM) :=
  qLoop (fun k p => f_X8_message_52 N G (fun x0 x2 m0 => k (x0, x2, m0)) p.1 p.2.1 p.2.2) N (x0, x2, m0)
def f_X8_message (N : Nat) (G : qG)  (x0 : Nat) (x1 : Int) (m0 : qM) : Option (Int × qM) :=
  kp (sI m0 804 x0 0) fun m1 =>
  kb2 (f_X8_within N G x1 0 (gI m1 822 x0) m1) fun v3 m2 =>
  if v3 = 0 then (
    some ((-1), m2))
  else (
    kp (sI m2 822 x0 0) fun m5 =>
    kp (sI m5 823 x0 x1) fun m6 =>
    kp (sI m6 825 x0 0) fun m7 =>
    kp (sI m7 828 x0 0) fun m8 =>
    kp (sI m8 831 x0 0) fun m9 =>
    kb (f_X8_steps N G x0 m9) fun m10 =>
    f_X8_message_L52 N G  x0 1 m10)
-- ProRataMarketModel.money
def f_X8_money_18 (N : Nat) (G : qG)  (x0 : Nat) (x1 : Int) (s0 : Nat) (s1 : Int) (m0 : qM) : Option (Int × qM) :=
  kp (sI m0 804 s0 s1) fun m1 =>
  if (gI m1 804 x0) = 0 then (
    rdA m1 (gR G 802 x0) x1 10 fun v3 =>
    some (v3, m1))
  else (
    some (0, m1))
def f_X8_money (N : Nat) (G : qG)  (x0 : Nat) (x1 : Int) (m0 : qM) : Option (Int × qM) :=
  kb2 (f_X8_within N G x1 0 9 m0) fun v2 m1 =>
  if v2 = 0 then (
    f_X8_money_18 N G  x0 x1 x0 1 m1)
  else (
    f_X8_money_18 N G  x0 x1 x0 0 m1)
-- ProRataMarketModel.of
def f_X8_of (N : Nat) (G : qG)  (x0 : Nat) (x1 : Int) (x2 : Int) (m0 : qM) : Option (Int × qM) :=
  kp (sI m0 804 x0 1) fun m1 =>
  kb2 (f_X8_placeOf N G x0 x1 m1) fun v3 m2 =>
  if v3 < 0 then (
    some (0, m2))
  else (
    kb2 (f_X8_within N G x2 0 5 m2) fun v6 m5 =>
    if v6 = 0 then (
      some (0, m5))
    else (
      kp (sI m5 804 x0 0) fun m8 =>
      if x2 < 5 then (
        ckI (x2 + 1) fun v17 =>
        kb2 (f_X8_ofOrder N G x0 v3 v17 m8) fun v19 m18 =>
        some (v19, m18))
      else (
        kb2 (f_X8_ofOrder N G x0 v3 2 m8) fun v11 m10 =>
        ckI (6 + v11) fun v12 =>
        rdA m10 (gR G 800 x0) v12 684 fun v13 =>
        if v13 = x1 then (
          ckI (8 + v11) fun v15 =>
          rdA m10 (gR G 800 x0) v15 684 fun v16 =>
          some (v16, m10))
        else (
          some (0, m10)))))
-- ProRataMarketModel.off
def f_X8_off (N : Nat) (G : qG)  (x0 : Nat) (x1 : Int) (m0 : qM) : Option (Int × qM) :=
  kp (sI m0 804 x0 0) fun m1 =>
  kb2 (f_X8_takesOff N G x0 x1 m1) fun v3 m2 =>
  some (v3, m2)
-- ProRataMarketModel.open
def f_X8_open (N : Nat) (G : qG)  (x0 : Nat) (m0 : qM) : Option (Int × qM) :=
  kp (sI m0 804 x0 0) fun m1 =>
  kb2 (f_X8_opening N G x0 m1) fun v3 m2 =>
  some (v3, m2)
-- ProRataMarketModel.order
def f_X8_order (N : Nat) (G : qG)  (x0 : Nat) (x1 : Int) (x2 : Int) (x3 : Int) (x4 : Int) (x5 : Int) (m0 : qM) : Option (Int × qM) :=
  kp (sI m0 804 x0 0) fun m1 =>
  kb2 (f_X8_isOrder N G x1 x2 x3 x4 x5 m1) fun v3 m2 =>
  if v3 = 0 then (
    some ((-1), m2))
  else (
    kb2 (f_X8_isInt N G x3 x4 m2) fun v6 m5 =>
    if v6 = 0 then (
      some ((-2), m5))
    else (
      kb2 (f_X8_orders N G x0 x1 x2 x3 x4 x5 m5) fun v9 m8 =>
      some (v9, m8)))
-- ProRataMarketModel.position
def f_X8_position_18 (N : Nat) (G : qG)  (x0 : Nat) (x1 : Int) (s0 : Nat) (s1 : Int) (m0 : qM) : Option (Int × qM) :=
  kp (sI m0 804 s0 s1) fun m1 =>
  if (gI m1 804 x0) = 0 then (
    ckI (14 + x1) fun v3 =>
    rdA m1 (gR G 800 x0) v3 684 fun v4 =>
    some (v4, m1))
  else (
    some (0, m1))
def f_X8_position (N : Nat) (G : qG)  (x0 : Nat) (x1 : Int) (m0 : qM) : Option (Int × qM) :=
  kb2 (f_X8_within N G x1 0 9 m0) fun v2 m1 =>
  if v2 = 0 then (
    f_X8_position_18 N G  x0 x1 x0 1 m1)
  else (
    f_X8_position_18 N G  x0 x1 x0 0 m1)
-- ProRataMarketModel.putsAside
def f_X8_putsAside_29 (N : Nat) (G : qG) (k29 : (Nat → Int → qM → Option (qM))) (x0 : Nat) (x1 : Int) (m0 : qM) : Option (qM) :=
  if x1 < 10 then (
    rdA m0 (gR G 802 x0) x1 10 fun v2 =>
    wrA m0 (gR G 803 x0) x1 10 v2 fun m3 =>
    ckI (x1 + 1) fun v4 =>
    k29 x0 v4 m3)
  else (
    some m0)
def f_X8_putsAside_L29 (N : Nat) (G : qG)  (x0 : Nat) (x1 : Int) (m0 : qM) : Option (qM) :=
  qLoop (fun k p => f_X8_putsAside_29 N G (fun x0 x1 m0 => k (x0, x1, m0)) p.1 p.2.1 p.2.2) N (x0, x1, m0)
def f_X8_putsAside_2 (N : Nat) (G : qG) (k2 : (Nat → Int → qM → Option (qM))) (x0 : Nat) (x1 : Int) (m0 : qM) : Option (qM) :=
  if x1 < 684 then (
    rdA m0 (gR G 800 x0) x1 684 fun v2 =>
    wrA m0 (gR G 801 x0) x1 684 v2 fun m3 =>
    ckI (x1 + 1) fun v4 =>
    k2 x0 v4 m3)
  else (
    f_X8_putsAside_L29 N G  x0 0 m0)
def f_X8_putsAside_L2 (N : Nat) (G : qG)  (x0 : Nat) (x1 : Int) (m0 : qM) : Option (qM) :=
  qLoop (fun k p => f_X8_putsAside_2 N G (fun x0 x1 m0 => k (x0, x1, m0)) p.1 p.2.1 p.2.2) N (x0, x1, m0)
def f_X8_putsAside (N : Nat) (G : qG)  (x0 : Nat) (m0 : qM) : Option (qM) :=
  f_X8_putsAside_L2 N G  x0 0 m0
-- ProRataMarketModel.putsBack
def f_X8_putsBack_29 (N : Nat) (G : qG) (k29 : (Nat → Int → qM → Option (qM))) (x0 : Nat) (x1 : Int) (m0 : qM) : Option (qM) :=
  if x1 < 10 then (
    rdA m0 (gR G 803 x0) x1 10 fun v2 =>
    wrA m0 (gR G 802 x0) x1 10 v2 fun m3 =>
    ckI (x1 + 1) fun v4 =>
    k29 x0 v4 m3)
  else (
    some m0)
def f_X8_putsBack_L29 (N : Nat) (G : qG)  (x0 : Nat) (x1 : Int) (m0 : qM) : Option (qM) :=
  qLoop (fun k p => f_X8_putsBack_29 N G (fun x0 x1 m0 => k (x0, x1, m0)) p.1 p.2.1 p.2.2) N (x0, x1, m0)
def f_X8_putsBack_2 (N : Nat) (G : qG) (k2 : (Nat → Int → qM → Option (qM))) (x0 : Nat) (x1 : Int) (m0 : qM) : Option (qM) :=
  if x1 < 684 then (
    rdA m0 (gR G 801 x0) x1 684 fun v2 =>
    wrA m0 (gR G 800 x0) x1 684 v2 fun m3 =>
    ckI (x1 + 1) fun v4 =>
    k2 x0 v4 m3)
  else (
    f_X8_putsBack_L29 N G  x0 0 m0)
def f_X8_putsBack_L2 (N : Nat) (G : qG)  (x0 : Nat) (x1 : Int) (m0 : qM) : Option (qM) :=
  qLoop (fun k p => f_X8_putsBack_2 N G (fun x0 x1 m0 => k (x0, x1, m0)) p.1 p.2.1 p.2.2) N (x0, x1, m0)
def f_X8_putsBack (N : Nat) (G : qG)  (x0 : Nat) (m0 : qM) : Option (qM) :=
  f_X8_putsBack_L2 N G  x0 0 m0
-- ProRataMarketModel.queue
def f_X8_queue_53 (N : Nat) (G : qG) (k11 : (Nat → Int → Int → Int → Int → Int → qM → Option (Int × qM))) (x0 : Nat) (x1 : Int) (x2 : Int) (x3 : Int) (x4 : Int) (x5 : Int) (m0 : qM) : Option (Int × qM) :=
  ckI (x5 + 1) fun v1 =>
  k11 x0 x1 x2 x3 x4 v1 m0
def f_X8_queue_11 (N : Nat) (G : qG) (k11 : (Nat → Int → Int → Int → Int → Int → qM → Option (Int × qM))) (x0 : Nat) (x1 : Int) (x2 : Int) (x3 : Int) (x4 : Int) (x5 : Int) (m0 : qM) : Option (Int × qM) :=
  if x5 < (gA m0 (gR G 800 x0) 5) then (
    kb2 (f_X8_isAt N G x0 x5 x1 x2 m0) fun v3 m2 =>
    if v3 = 0 then (
      f_X8_queue_53 N G k11 x0 x1 x2 x3 x4 x5 m2)
    else (
      if x4 = x3 then (
        kb2 (f_X8_ofOrder N G x0 x5 0 m2) fun v8 m7 =>
        some (v8, m7))
      else (
        ckI (x4 + 1) fun v6 =>
        f_X8_queue_53 N G k11 x0 x1 x2 x3 v6 x5 m2)))
  else (
    some ((-1), m0))
def f_X8_queue_L11 (N : Nat) (G : qG)  (x0 : Nat) (x1 : Int) (x2 : Int) (x3 : Int) (x4 : Int) (x5 : Int) (m0 : qM) : Option (Int × qM) :=
  qLoop (fun k p => f_X8_queue_11 N G (fun x0 x1 x2 x3 x4 x5 m0 => k (x0, x1, x2, x3, x4, x5, m0)) p.1 p.2.1 p.2.2.1 p.2.2.2.1 p.2.2.2.2.1 p.2.2.2.2.2.1 p.2.2.2.2.2.2) N (x0, x1, x2, x3, x4, x5, m0)
def f_X8_queue (N : Nat) (G : qG)  (x0 : Nat) (x1 : Int) (x2 : Int) (x3 : Int) (m0 : qM) : Option (Int × qM) :=
  kp (sI m0 804 x0 0) fun m1 =>
  f_X8_queue_L11 N G  x0 x1 x2 x3 0 0 m1
-- ProRataMarketModel.sideOf
def f_X8_sideOf (N : Nat) (G : qG)  (x0 : Nat) (x1 : Int) (m0 : qM) : Option (Int × qM) :=
  kb2 (f_X8_placeOf N G x0 x1 m0) fun v2 m1 =>
  kb2 (f_X8_ofOrder N G x0 v2 2 m1) fun v4 m3 =>
  some (v4, m3)
-- ProRataMarketModel.share
def f_X8_share (N : Nat) (G : qG)  (x0 : Nat) (x1 : Int) (x2 : Int) (x3 : Int) (m0 : qM) : Option (Int × qM) :=
  kp (sI m0 804 x0 0) fun m1 =>
  kb2 (f_X8_laysFor N G x0 x1 m1) fun v3 m2 =>
  if v3 < 0 then (
    some ((-1), m2))
  else (
    kb2 (f_X8_within N G x3 0 3 m2) fun v6 m5 =>
    if v6 = 0 then (
      some ((-1), m5))
    else (
      kb2 (f_X8_laidInAll N G x0 m5) fun v9 m8 =>
      kb2 (f_X8_within N G x2 1 v9 m8) fun v11 m10 =>
      if v11 = 0 then (
        some ((-1), m10))
      else (
        kb2 (f_X8_sideOf N G x0 x1 m10) fun v14 m13 =>
        kb2 (f_X8_topLaid N G x0 v14 m13) fun v16 m15 =>
        ckI (8 + v14) fun v17 =>
        rdA m15 (gR G 800 x0) v17 684 fun v18 =>
        kb (f_X8_shares N G x0 x2 v16 v18 m15) fun m19 =>
        if x3 = 0 then (
          kb2 (f_X8_has N G x0 v3 m19) fun v28 m27 =>
          some (v28, m27))
        else (
          if x3 = 1 then (
            rdA m19 (gR G 808 x0) v3 70 fun v26 =>
            some (v26, m19))
          else (
            if x3 = 2 then (
              rdA m19 (gR G 809 x0) v3 70 fun v25 =>
              some (v25, m19))
            else (
              rdA m19 (gR G 810 x0) v3 70 fun v24 =>
              some (v24, m19)))))))
-- ProRataMarketModel.splits
def f_X8_splits_293 (N : Nat) (G : qG) (k293 : (Nat → Int → Int → Int → Int → Int → qM → Option (Int × qM))) (x0 : Nat) (x2 : Int) (x4 : Int) (x7 : Int) (x9 : Int) (x10 : Int) (m0 : qM) : Option (Int × qM) :=
  if x10 < x2 then (
    ckI (x4 + x10) fun v3 =>
    kb2 (f_X8_has N G x0 v3 m0) fun v5 m4 =>
    ckI (x9 + v5) fun v6 =>
    ckI (x10 + 1) fun v7 =>
    k293 x0 x2 x4 x7 v6 v7 m4)
  else (
    ckI (x9 - x7) fun v2 =>
    some (v2, m0))
def f_X8_splits_L293 (N : Nat) (G : qG)  (x0 : Nat) (x2 : Int) (x4 : Int) (x7 : Int) (x9 : Int) (x10 : Int) (m0 : qM) : Option (Int × qM) :=
  qLoop (fun k p => f_X8_splits_293 N G (fun x0 x2 x4 x7 x9 x10 m0 => k (x0, x2, x4, x7, x9, x10, m0)) p.1 p.2.1 p.2.2.1 p.2.2.2.1 p.2.2.2.2.1 p.2.2.2.2.2.1 p.2.2.2.2.2.2) N (x0, x2, x4, x7, x9, x10, m0)
def f_X8_splits_274 (N : Nat) (G : qG)  (x0 : Nat) (x2 : Int) (x4 : Int) (x5 : Int) (x7 : Int) (s0 : Nat) (s1 : Int) (s2 : Int) (m0 : qM) : Option (Int × qM) :=
  ckI (8 + x5) fun v1 =>
  rdA m0 (gR G 800 x0) v1 684 fun v2 =>
  kb (f_X8_shares N G s0 s1 s2 v2 m0) fun m3 =>
  f_X8_splits_L293 N G  x0 x2 x4 x7 0 0 m3
def f_X8_splits_212 (N : Nat) (G : qG) (k179 : (Nat → Int → Int → Int → Int → Int → Int → Int → Int → qM → Option (Int × qM))) (x0 : Nat) (x2 : Int) (x3 : Int) (x4 : Int) (x5 : Int) (x6 : Int) (x7 : Int) (x8 : Int) (x9 : Int) (s0 : Nat) (s1 : Int) (s2 : Int) (s3 : Int) (m0 : qM) : Option (Int × qM) :=
  ckI (s2 + s3) fun v1 =>
  wrA m0 s0 s1 70 v1 fun m2 =>
  ckI (x4 + x9) fun v3 =>
  wrA m2 (gR G 806 x0) v3 70 (-1) fun m4 =>
  ckI (x9 + 1) fun v5 =>
  k179 x0 x2 x3 x4 x5 x6 x7 x8 v5 m4
def f_X8_splits_179 (N : Nat) (G : qG) (k179 : (Nat → Int → Int → Int → Int → Int → Int → Int → Int → qM → Option (Int × qM))) (x0 : Nat) (x2 : Int) (x3 : Int) (x4 : Int) (x5 : Int) (x6 : Int) (x7 : Int) (x8 : Int) (x9 : Int) (m0 : qM) : Option (Int × qM) :=
  if x9 < x2 then (
    ckI (x4 + x9) fun v9 =>
    ckD x2 <| ckI (x8.tdiv x2) fun v10 =>
    ckD x2 <| ckI (x8 - x8.tdiv x2 * x2) fun v11 =>
    if x9 < v11 then (
      f_X8_splits_212 N G k179 x0 x2 x3 x4 x5 x6 x7 x8 x9 (gR G 807 x0) v9 v10 1 m0)
    else (
      f_X8_splits_212 N G k179 x0 x2 x3 x4 x5 x6 x7 x8 x9 (gR G 807 x0) v9 v10 0 m0))
  else (
    ckI (x2 - 1) fun v2 =>
    ckI ((gI m0 805 x0) + v2) fun v3 =>
    kp (sI m0 805 x0 v3) fun m4 =>
    if x6 = x4 then (
      f_X8_splits_274 N G  x0 x2 x4 x5 x7 x0 x3 (-1) m4)
    else (
      if x4 < x6 then (
        ckI (x6 + x2) fun v7 =>
        ckI (v7 - 1) fun v8 =>
        f_X8_splits_274 N G  x0 x2 x4 x5 x7 x0 x3 v8 m4)
      else (
        f_X8_splits_274 N G  x0 x2 x4 x5 x7 x0 x3 x6 m4)))
def f_X8_splits_L179 (N : Nat) (G : qG)  (x0 : Nat) (x2 : Int) (x3 : Int) (x4 : Int) (x5 : Int) (x6 : Int) (x7 : Int) (x8 : Int) (x9 : Int) (m0 : qM) : Option (Int × qM) :=
  qLoop (fun k p => f_X8_splits_179 N G (fun x0 x2 x3 x4 x5 x6 x7 x8 x9 m0 => k (x0, x2, x3, x4, x5, x6, x7, x8, x9, m0)) p.1 p.2.1 p.2.2.1 p.2.2.2.1 p.2.2.2.2.1 p.2.2.2.2.2.1 p.2.2.2.2.2.2.1 p.2.2.2.2.2.2.2.1 p.2.2.2.2.2.2.2.2.1 p.2.2.2.2.2.2.2.2.2) N (x0, x2, x3, x4, x5, x6, x7, x8, x9, m0)
def f_X8_splits_127 (N : Nat) (G : qG) (k127 : (Nat → Int → Int → Int → Int → Int → Int → Int → Int → qM → Option (Int × qM))) (x0 : Nat) (x2 : Int) (x3 : Int) (x4 : Int) (x5 : Int) (x6 : Int) (x7 : Int) (x8 : Int) (x9 : Int) (m0 : qM) : Option (Int × qM) :=
  if x4 < x9 then (
    ckI (x9 + x2) fun v2 =>
    ckI (v2 - 1) fun v3 =>
    rdA m0 (gR G 807 x0) x9 70 fun v4 =>
    wrA m0 (gR G 807 x0) v3 70 v4 fun m5 =>
    ckI (x9 + x2) fun v6 =>
    ckI (v6 - 1) fun v7 =>
    rdA m5 (gR G 806 x0) x9 70 fun v8 =>
    wrA m5 (gR G 806 x0) v7 70 v8 fun m9 =>
    ckI (x9 + (-1)) fun v10 =>
    k127 x0 x2 x3 x4 x5 x6 x7 x8 v10 m9)
  else (
    f_X8_splits_L179 N G  x0 x2 x3 x4 x5 x6 x7 x8 0 m0)
def f_X8_splits_L127 (N : Nat) (G : qG)  (x0 : Nat) (x2 : Int) (x3 : Int) (x4 : Int) (x5 : Int) (x6 : Int) (x7 : Int) (x8 : Int) (x9 : Int) (m0 : qM) : Option (Int × qM) :=
  qLoop (fun k p => f_X8_splits_127 N G (fun x0 x2 x3 x4 x5 x6 x7 x8 x9 m0 => k (x0, x2, x3, x4, x5, x6, x7, x8, x9, m0)) p.1 p.2.1 p.2.2.1 p.2.2.2.1 p.2.2.2.2.1 p.2.2.2.2.2.1 p.2.2.2.2.2.2.1 p.2.2.2.2.2.2.2.1 p.2.2.2.2.2.2.2.2.1 p.2.2.2.2.2.2.2.2.2) N (x0, x2, x3, x4, x5, x6, x7, x8, x9, m0)
def f_X8_splits_89 (N : Nat) (G : qG)  (x0 : Nat) (x2 : Int) (x3 : Int) (x4 : Int) (x5 : Int) (x6 : Int) (s0 : Nat) (s1 : Int) (s2 : Int) (m0 : qM) : Option (Int × qM) :=
  ckI (8 + x5) fun v1 =>
  rdA m0 (gR G 800 x0) v1 684 fun v2 =>
  kb (f_X8_shares N G s0 s1 s2 v2 m0) fun m3 =>
  kb2 (f_X8_has N G x0 x4 m3) fun v6 m5 =>
  rdA m5 (gR G 807 x0) x4 70 fun v7 =>
  ckI ((gI m5 805 x0) - 1) fun v8 =>
  f_X8_splits_L127 N G  x0 x2 x3 x4 x5 x6 v6 v7 v8 m5
def f_X8_splits (N : Nat) (G : qG)  (x0 : Nat) (x1 : Int) (x2 : Int) (x3 : Int) (m0 : qM) : Option (Int × qM) :=
  kp (sI m0 804 x0 0) fun m1 =>
  kb2 (f_X8_laysFor N G x0 x1 m1) fun v3 m2 =>
  if v3 < 0 then (
    some ((-2000000), m2))
  else (
    kb2 (f_X8_within N G x2 2 9 m2) fun v6 m5 =>
    if v6 = 0 then (
      some ((-2000000), m5))
    else (
      rdA m5 (gR G 807 x0) v3 70 fun v8 =>
      if v8 < x2 then (
        some ((-2000000), m5))
      else (
        kb2 (f_X8_laidInAll N G x0 m5) fun v11 m10 =>
        kb2 (f_X8_within N G x3 1 v11 m10) fun v13 m12 =>
        if v13 = 0 then (
          some ((-2000000), m12))
        else (
          kb2 (f_X8_sideOf N G x0 x1 m12) fun v16 m15 =>
          kb2 (f_X8_topLaid N G x0 v16 m15) fun v18 m17 =>
          if v18 = v3 then (
            f_X8_splits_89 N G  x0 x2 x3 v3 v16 v18 x0 x3 (-1) m17)
          else (
            f_X8_splits_89 N G  x0 x2 x3 v3 v16 v18 x0 x3 v18 m17)))))
-- ProRataMarketModel.takeFor
def f_X8_takeFor_108 (N : Nat) (G : qG) (k51 : (Nat → Int → Int → Int → Int → Int → Int → qM → Option (Int × qM))) (x0 : Nat) (x2 : Int) (x3 : Int) (x4 : Int) (x5 : Int) (x6 : Int) (x7 : Int) (m0 : qM) : Option (Int × qM) :=
  ckI (x7 + 1) fun v1 =>
  k51 x0 x2 x3 x4 x5 x6 v1 m0
def f_X8_takeFor_51 (N : Nat) (G : qG) (k51 : (Nat → Int → Int → Int → Int → Int → Int → qM → Option (Int × qM))) (x0 : Nat) (x2 : Int) (x3 : Int) (x4 : Int) (x5 : Int) (x6 : Int) (x7 : Int) (m0 : qM) : Option (Int × qM) :=
  if x6 < x7 then (
    some ((-1), m0))
  else (
    ckI (8 + x4) fun v2 =>
    rdA m0 (gR G 800 x0) v2 684 fun v3 =>
    kb (f_X8_shares N G x0 x7 x5 v3 m0) fun m4 =>
    if x2 = 0 then (
      kb2 (f_X8_has N G x0 x3 m4) fun v12 m11 =>
      if 0 < v12 then (
        some (x7, m11))
      else (
        f_X8_takeFor_108 N G k51 x0 x2 x3 x4 x5 x6 x7 m11))
    else (
      kb2 (f_X8_has N G x0 x3 m4) fun v8 m7 =>
      rdA m7 (gR G 807 x0) x3 70 fun v9 =>
      if v8 = v9 then (
        some (x7, m7))
      else (
        f_X8_takeFor_108 N G k51 x0 x2 x3 x4 x5 x6 x7 m7)))
def f_X8_takeFor_L51 (N : Nat) (G : qG)  (x0 : Nat) (x2 : Int) (x3 : Int) (x4 : Int) (x5 : Int) (x6 : Int) (x7 : Int) (m0 : qM) : Option (Int × qM) :=
  qLoop (fun k p => f_X8_takeFor_51 N G (fun x0 x2 x3 x4 x5 x6 x7 m0 => k (x0, x2, x3, x4, x5, x6, x7, m0)) p.1 p.2.1 p.2.2.1 p.2.2.2.1 p.2.2.2.2.1 p.2.2.2.2.2.1 p.2.2.2.2.2.2.1 p.2.2.2.2.2.2.2) N (x0, x2, x3, x4, x5, x6, x7, m0)
def f_X8_takeFor (N : Nat) (G : qG)  (x0 : Nat) (x1 : Int) (x2 : Int) (m0 : qM) : Option (Int × qM) :=
  kp (sI m0 804 x0 0) fun m1 =>
  kb2 (f_X8_laysFor N G x0 x1 m1) fun v3 m2 =>
  if v3 < 0 then (
    some ((-1), m2))
  else (
    kb2 (f_X8_within N G x2 0 1 m2) fun v6 m5 =>
    if v6 = 0 then (
      some ((-1), m5))
    else (
      kb2 (f_X8_sideOf N G x0 x1 m5) fun v9 m8 =>
      kb2 (f_X8_topLaid N G x0 v9 m8) fun v11 m10 =>
      kb2 (f_X8_laidInAll N G x0 m10) fun v13 m12 =>
      f_X8_takeFor_L51 N G  x0 x2 v3 v9 v11 v13 1 m12))
-- ProRataMarketModel.thrown
def f_X8_thrown (N : Nat) (G : qG)  (x0 : Nat) (m0 : qM) : Option (Int × qM) :=
  some (gI m0 804 x0, m0)
-- ProRataMarketModel.top
def f_X8_top (N : Nat) (G : qG)  (x0 : Nat) (x1 : Int) (m0 : qM) : Option (Int × qM) :=
  kp (sI m0 804 x0 0) fun m1 =>
  kb2 (f_X8_within N G x1 0 1 m1) fun v3 m2 =>
  if v3 = 0 then (
    some ((-1), m2))
  else (
    ckI (6 + x1) fun v5 =>
    rdA m2 (gR G 800 x0) v5 684 fun v6 =>
    some (v6, m2))
-- ProRataMarketModel.trade
def f_X8_trade (N : Nat) (G : qG)  (x0 : Nat) (x1 : Int) (x2 : Int) (m0 : qM) : Option (Int × qM) :=
  kp (sI m0 804 x0 0) fun m1 =>
  ckI ((gA m1 (gR G 800 x0) 10) - 1) fun v2 =>
  kb2 (f_X8_within N G x1 0 v2 m1) fun v4 m3 =>
  if v4 = 0 then (
    some ((-1), m3))
  else (
    kb2 (f_X8_within N G x2 0 4 m3) fun v7 m6 =>
    if v7 = 0 then (
      some ((-1), m6))
    else (
      ckI (5 * x1) fun v9 =>
      ckI (384 + v9) fun v10 =>
      ckI (v10 + x2) fun v11 =>
      rdA m6 (gR G 800 x0) v11 684 fun v12 =>
      some (v12, m6)))
-- ProRataMarketModel.worth
def f_X8_worth (N : Nat) (G : qG)  (x0 : Nat) (x1 : Int) (x2 : Int) (x3 : Int) (x4 : Int) (x5 : Int) (m0 : qM) : Option (Int × qM) :=
  kp (sI m0 804 x0 0) fun m1 =>
  kb2 (f_X8_isOrder N G x1 x2 x3 x4 x5 m1) fun v3 m2 =>
  if v3 = 0 then (
    some ((-1), m2))
  else (
    kb2 (f_X8_isInt N G x3 x4 m2) fun v6 m5 =>
    if v6 = 0 then (
      some ((-1), m5))
    else (
      kb (f_X8_putsAside N G x0 m5) fun m8 =>
      kb2 (f_X8_trading N G x0 x1 x2 x3 x4 x5 m8) fun v11 m10 =>
      kb (f_X8_putsBack N G x0 m10) fun m12 =>
      if v11 < 0 then (
        some ((-1), m12))
      else (
        some (gI m12 816 x0, m12))))
-- ProRataMarketModel.would
def f_X8_would (N : Nat) (G : qG)  (x0 : Nat) (x1 : Int) (x2 : Int) (x3 : Int) (x4 : Int) (x5 : Int) (x6 : Int) (m0 : qM) : Option (Int × qM) :=
  kp (sI m0 804 x0 0) fun m1 =>
  kb2 (f_X8_isOrder N G x1 x2 x3 x4 x5 m1) fun v3 m2 =>
  if v3 = 0 then (
    some ((-1), m2))
  else (
    kb2 (f_X8_isInt N G x3 x4 m2) fun v6 m5 =>
    if v6 = 0 then (
      some ((-1), m5))
    else (
      kb2 (f_X8_within N G x6 0 3 m5) fun v9 m8 =>
      if v9 = 0 then (
        some ((-1), m8))
      else (
        kb (f_X8_putsAside N G x0 m8) fun m11 =>
        kb2 (f_X8_trading N G x0 x1 x2 x3 x4 x5 m11) fun v14 m13 =>
        kb (f_X8_putsBack N G x0 m13) fun m15 =>
        if x6 = 0 then (
          some (gI m15 814 x0, m15))
        else (
          if x6 = 1 then (
            some (v14, m15))
          else (
            if x6 = 2 then (
              some (gI m15 815 x0, m15))
            else (
              some (gI m15 817 x0, m15)))))))
