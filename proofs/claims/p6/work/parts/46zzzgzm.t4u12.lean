set_option maxHeartbeats 400000 in
theorem canTry_0 {laws zk p h d fe sa : Int32} (hl : hs p laws = 0) : fX11_canTry laws zk p h d fe sa = 0 := by
  unfold fX11_canTry
  rw [if_pos hl]
def trAA (S : Nat → Int32) (LL : Nat → Cls) (im : Nat → Option (Nat → Int32)) (p q0 q1 q2 q3 q4 : Int32) : Int32 := if hs p (gI im 0) = 0 then -1 else trA S (LL p.toNatClampNeg) q0 q1 q2 q3 q4
set_option maxHeartbeats 400000 in
theorem ref_triedw {S sg cl cs cf : Nat → Int32} {sk wd : Nat → Int64} {laws top f1 f2 f3 f4 f5 f6 p q0 q1 q2 q3 q4 : Int32} {LL : Nat → Cls} {im : Nat → Option (Nat → Int32)} (g : GD S) (x : XT S) (hr : RLW laws sg cl cs cf LL) (h6 : ¬ 6 < laws) (h0 : laws = gI im 0) : (fX11_tried laws top f1 f2 f3 f4 f5 f6 sg cl cs sk wd S (S 6) (S 8) (S 9) p q0 q1 q2 q3 q4).2.2.2.2.2.2.2.2.2 = trAA S LL im p q0 q1 q2 q3 q4 := by
  unfold trAA
  rw [← h0]
  by_cases hl : hs p laws = 0
  · rw [if_pos hl]
    unfold fX11_tried
    rw [bndv (canTry_0 hl), if_pos rfl]
  · rw [if_neg hl]
    exact tried_r g x (RLW_R hr h6 hl).1 hl
def wmAA (S : Nat → Int32) (LL : Nat → Cls) (im : Nat → Option (Nat → Int32)) (p q0 q1 q2 q3 q4 : Int32) : Int32 := if hs p (gI im 0) = 0 then -1 else wmA S (LL p.toNatClampNeg) q0 q1 q2 q3 q4
set_option maxHeartbeats 400000 in
theorem ref_warmerw {S sg cl cs cf : Nat → Int32} {sk wd : Nat → Int64} {laws top f1 f2 f3 f4 f5 f6 p q0 q1 q2 q3 q4 : Int32} {LL : Nat → Cls} {im : Nat → Option (Nat → Int32)} (g : GD S) (x : XT S) (hr : RLW laws sg cl cs cf LL) (h6 : ¬ 6 < laws) (h0 : laws = gI im 0) : (fX11_warmer laws top f1 f2 f3 f4 f5 f6 sg cl cs sk wd S (S 6) (S 8) (S 9) p q0 q1 q2 q3 q4).2.2.2.2.2.2.2.2.2 = wmAA S LL im p q0 q1 q2 q3 q4 := by
  unfold wmAA
  rw [← h0]
  by_cases hl : hs p laws = 0
  · rw [if_pos hl]
    unfold fX11_warmer
    rw [bndv (canTry_0 hl), if_pos rfl]
  · rw [if_neg hl]
    exact warmer_r g x (RLW_R hr h6 hl).1 hl
def ngAA (S : Nat → Int32) (LL : Nat → Cls) (im : Nat → Option (Nat → Int32)) (p q0 q1 q2 q3 : Int32) : Int32 := if hs p (gI im 0) = 0 then -1 else ngA S (LL p.toNatClampNeg) q0 q1 q2 q3
set_option maxHeartbeats 400000 in
theorem ref_nightsw {S sg cl cs cf : Nat → Int32} {sk wd : Nat → Int64} {laws top f1 f2 f3 f4 f5 f6 p q0 q1 q2 q3 : Int32} {LL : Nat → Cls} {im : Nat → Option (Nat → Int32)} (g : GD S) (x : XT S) (hr : RLW laws sg cl cs cf LL) (h6 : ¬ 6 < laws) (h0 : laws = gI im 0) : (fX11_nights laws top f1 f2 f3 f4 f5 f6 sg cl cs sk wd S (S 2) (S 6) (S 8) (S 9) p q0 q1 q2 q3).2.2.2.2.2.2.2.2.2.2 = ngAA S LL im p q0 q1 q2 q3 := by
  unfold ngAA
  rw [← h0]
  by_cases hl : hs p laws = 0
  · rw [if_pos hl]
    unfold fX11_nights
    rw [if_pos hl]
  · rw [if_neg hl]
    exact nights_r g x (RLW_R hr h6 hl).1 hl
def enAA (S : Nat → Int32) (LL : Nat → Cls) (im : Nat → Option (Nat → Int32)) (p q0 q1 : Int32) : Int32 := if hs p (gI im 0) = 0 then -1 else enA S (LL p.toNatClampNeg) q0 q1
set_option maxHeartbeats 400000 in
theorem ref_enoughw {S sg cl cs cf : Nat → Int32} {sk wd : Nat → Int64} {laws top  p q0 q1 : Int32} {LL : Nat → Cls} {im : Nat → Option (Nat → Int32)} (g : GD S) (x : XT S) (hr : RLW laws sg cl cs cf LL) (h6 : ¬ 6 < laws) (h0 : laws = gI im 0) : (fX11_enough laws top sg cl cs sk wd S (S 0) (S 4) (S 6) p q0 q1).2.2.2 = enAA S LL im p q0 q1 := by
  unfold enAA
  rw [← h0]
  by_cases hl : hs p laws = 0
  · rw [if_pos hl]
    unfold fX11_enough
    rw [if_pos hl]
  · rw [if_neg hl]
    exact enough_r g x (RLW_R hr h6 hl).1 hl
def leAA (S : Nat → Int32) (LL : Nat → Cls) (im : Nat → Option (Nat → Int32)) (p q0 : Int32) : Int32 := if hs p (gI im 0) = 0 then -1 else leA S (LL p.toNatClampNeg) q0
set_option maxHeartbeats 400000 in
theorem ref_leastw {S sg cl cs cf : Nat → Int32} {sk wd : Nat → Int64} {laws top  p q0 : Int32} {LL : Nat → Cls} {im : Nat → Option (Nat → Int32)} (g : GD S) (x : XT S) (hr : RLW laws sg cl cs cf LL) (h6 : ¬ 6 < laws) (h0 : laws = gI im 0) : (fX11_least laws top sg cl cs sk wd S (S 0) (S 4) (S 6) p q0).2.2.2 = leAA S LL im p q0 := by
  unfold leAA
  rw [← h0]
  by_cases hl : hs p laws = 0
  · rw [if_pos hl]
    unfold fX11_least
    rw [if_pos hl]
  · rw [if_neg hl]
    exact least_r g x (RLW_R hr h6 hl).1 hl
def seAA (S : Nat → Int32) (LL : Nat → Cls) (im : Nat → Option (Nat → Int32)) (p q0 q1 : Int32) : Int32 := if hs p (gI im 0) = 0 then -1 else seA S (LL p.toNatClampNeg) q0 q1
set_option maxHeartbeats 400000 in
theorem ref_servesw {S sg cl cs cf st1 st2 st3 st4 st5 bp : Nat → Int32} {sk wd : Nat → Int64} {laws top f1 f2 f3 f4 f5 f6 m1 m2 m3 p q0 q1 : Int32} {LL : Nat → Cls} {im : Nat → Option (Nat → Int32)} (g : GD S) (x : XT S) (hr : RLW laws sg cl cs cf LL) (h6 : ¬ 6 < laws) (h0 : laws = gI im 0) : (fX11_serves laws top f1 f2 f3 f4 f5 f6 m1 m2 m3 sg cl cs sk wd S st1 st2 st3 st4 st5 bp (S 1) (S 2) (S 3) (S 6) p q0 q1).2.2.2.2.2.2.2.2.2.2.2.2.2.2.2.2.2.2 = seAA S LL im p q0 q1 := by
  unfold seAA
  rw [← h0]
  by_cases hl : hs p laws = 0
  · rw [if_pos hl]
    unfold fX11_serves
    rw [if_pos hl]
  · rw [if_neg hl]
    exact serves_r g x (RLW_R hr h6 hl).1 hl
set_option maxHeartbeats 400000 in
theorem near_c {S nF pF jF oF fF wF f : Nat → Int32} {zn zp zj zo zf zw ws nw fm x a b : Int32} (h : X4 S zn zp zj zo zf nw fm x ws zw nF pF jF oF fF wF) (g : GD S) : (fX10_nearest zn nF zp pF f a b).2 = na_r S a b :=
  na_c g h.2.2.1 h.2.2.2.1 h.1.1 h.1.2.1
