def alAA (S : Nat → Int32) (LL : Nat → Cls) (im : Nat → Option (Nat → Int32)) (p q0 : Int32) : Int32 := if hs p (gI im 0) = 0 then -1 else alA S (LL p.toNatClampNeg) q0
set_option maxHeartbeats 400000 in
theorem ref_allw {S sg cl cs cf st1 st2 st3 st4 st5 bp sv : Nat → Int32} {sk wd : Nat → Int64} {laws top f1 f2 f3 f4 f5 f6 m1 m2 m3 p q0 : Int32} {LL : Nat → Cls} {im : Nat → Option (Nat → Int32)} (g : GD S) (x : XT S) (hr : RLW laws sg cl cs cf LL) (h6 : ¬ 6 < laws) (h0 : laws = gI im 0) : (fX11_all laws top f1 f2 f3 f4 f5 f6 m1 m2 m3 sg cl cs sk wd S st1 st2 st3 st4 st5 bp sv (S 1) (S 2) (S 3) (S 6) p q0).2.2.2.2.2.2.2.2.2.2.2.2.2.2.2.2.2.2.2 = alAA S LL im p q0 := by
  unfold alAA
  rw [← h0]
  by_cases hl : hs p laws = 0
  · rw [if_pos hl]
    unfold fX11_all
    rw [if_pos hl]
  · rw [if_neg hl]
    exact all_r g x (RLW_R hr h6 hl).1 hl
