set_option maxHeartbeats 400000 in
theorem canTry_0 {laws zk p h d fe sa : Int32} (hl : hs p laws = 0) : fX11_canTry laws zk p h d fe sa = 0 := by
  unfold fX11_canTry
  rw [if_pos hl]
def gsAA (S : Nat → Int32) (LL : Nat → Cls) (im : Nat → Option (Nat → Int32)) (p q0 q1 q2 q3 q4 q5 q6 q7 : Int32) : Int32 := if hs p (gI im 0) = 0 then -1 else gsA S (LL p.toNatClampNeg) q0 q1 q2 q3 q4 q5 q6 q7
set_option maxHeartbeats 400000 in
theorem ref_guessw {S sg cl cs cf wt : Nat → Int32} {sk wd : Nat → Int64} {laws top f1 f2 f3 f4 f5 f6 p q0 q1 q2 q3 q4 q5 q6 q7 : Int32} {LL : Nat → Cls} {im : Nat → Option (Nat → Int32)} (g : GD S) (x : XT S) (hr : RLW laws sg cl cs cf LL) (h6 : ¬ 6 < laws) (h0 : laws = gI im 0) : (fX11_guess laws top f1 f2 f3 f4 f5 f6 sg cl cs sk wd S wt (S 6) (S 8) (S 9) p q0 q1 q2 q3 q4 q5 q6 q7).2.2.2.2.2.2.2.2.2.2 = gsAA S LL im p q0 q1 q2 q3 q4 q5 q6 q7 := by
  unfold gsAA
  rw [← h0]
  by_cases hl : hs p laws = 0
  · rw [if_pos hl]
    unfold fX11_guess
    rw [bndv (canTry_0 hl), if_pos rfl]
  · rw [if_neg hl]
    exact guess_r g x (RLW_R hr h6 hl).1 hl
