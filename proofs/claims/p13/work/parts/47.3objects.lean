def xw (kA : Nat → ClassId) (x0 : Nat) (z0 : Nat) (xi : Nat) (xt : Nat) (xq : Nat) (rdr : Nat) (h0 : Nat) (t0 : Nat) (q0 : Nat) (v0 : Nat) (m0 : Nat) (w0 : Nat) (x_tl : Int32) (x_lc : Int32) (xtF : Nat → Int32) (xiF : Nat → Option Nat) (xqF : Nat → Option Nat) (tnodes : Nat) (tnodesA : Nat) (tnodesS : Int32) (tnodesF : Nat → Int32) (tpasses : Nat) (tpassesA : Nat) (tpassesS : Int32) (tpassesF : Nat → Int32) (tjars : Nat) (tjarsA : Nat) (tjarsS : Int32) (tjarsF : Nat → Int32) (torders : Nat) (tordersA : Nat) (tordersS : Int32) (tordersF : Nat → Int32) (tfeasts : Nat) (tfeastsA : Nat) (tfeastsS : Int32) (tfeastsF : Nat → Int32) (tway : Nat) (twayA : Nat) (twayS : Int32) (twayF : Nat → Int32) (tws : Int32) (tnow : Int32) (tfm : Int32) (tx : Int32) (znodes : Nat) (znodesA : Nat) (znodesS : Int32) (znodesF : Nat → Int32) (zpasses : Nat) (zpassesA : Nat) (zpassesS : Int32) (zpassesF : Nat → Int32) (zjars : Nat) (zjarsA : Nat) (zjarsS : Int32) (zjarsF : Nat → Int32) (zorders : Nat) (zordersA : Nat) (zordersS : Int32) (zordersF : Nat → Int32) (zfeasts : Nat) (zfeastsA : Nat) (zfeastsS : Int32) (zfeastsF : Nat → Int32) (zway : Nat) (zwayA : Nat) (zwayS : Int32) (zwayF : Nat → Int32) (zws : Int32) (znow : Int32) (zfm : Int32) (zx : Int32) (s0 : Nat) (cW : Nat) (cF : Nat → Int32) (cb : Int32) (ch : Int32) (co : Int32) (s1 : Nat) (ddW : Nat) (ddF : Nat → Int32) (ddb : Int32) (ddh : Int32) (ddo : Int32) (t_drops : Int32) (t_hour : Int32) (t_warmth : Int32) (t_needed : Int32) (t_felt : Int32) (t_salt : Int32) (l9 : Nat) (l8 : Nat) (q_left : Int32) (q_leaving : Int32) (q_length : Int32) (q_target : Int32) (q_barred : Int32) (q_latest : Int32) (q_waited : Int32) (q_any : Int32) (qf : Nat) (qr : Nat) (qb : Nat) (qfF : Nat → Int32) (qrF : Nat → Int32) (qbF : Nat → Int32) (v_found : Int32) (v_due : Int32) (va : Nat) (vb : Nat) (vc : Nat) (vaF : Nat → Int32) (vbF : Nat → Int32) (vcF : Nat → Int32) (k_paid : Int32) (ko : Nat) (kc : Nat) (koF : Nat → Int32) (kcF : Nat → Int32) (r_tokenCount : Int32) (r_next : Int32) (r_fault : Int32) (r_parts : Int32) (r_chained : Int32) (rt : Nat) (rp : Nat) (rtF : Nat → Int32) (rpF : Nat → Int32) : va_W := (x0, .inr (10, [.ref w0, .ref z0, .ref xi, .ref xt, .int x_tl, .ref xq, .int x_lc, .ref rdr, .ref h0, .ref t0, .ref q0, .ref v0, .ref m0])) :: (xi, .inl (kA 4, 4, .inr (.inr (.inr (.inr xiF))))) :: (xt, .inl (kA 0, 400, .inl xtF)) :: (xq, .inl (kA 5, 6, .inr (.inr (.inr (.inr xqF))))) :: (w0, .inr (9, [.ref tnodes, .ref tpasses, .ref tjars, .ref torders, .ref tfeasts, .ref tway, .int tws, .int tnow, .int tfm, .int tx])) :: (tnodes, .inr (6, [.int 4, .ref tnodesA, .int tnodesS])) :: (tnodesA, .inl (kA 0, 48, .inl tnodesF)) :: (tpasses, .inr (6, [.int 5, .ref tpassesA, .int tpassesS])) :: (tpassesA, .inl (kA 0, 100, .inl tpassesF)) :: (tjars, .inr (6, [.int 9, .ref tjarsA, .int tjarsS])) :: (tjarsA, .inl (kA 0, 144, .inl tjarsF)) :: (torders, .inr (6, [.int 4, .ref tordersA, .int tordersS])) :: (tordersA, .inl (kA 0, 24, .inl tordersF)) :: (tfeasts, .inr (6, [.int 3, .ref tfeastsA, .int tfeastsS])) :: (tfeastsA, .inl (kA 0, 24, .inl tfeastsF)) :: (tway, .inr (6, [.int 1, .ref twayA, .int twayS])) :: (twayA, .inl (kA 0, 6, .inl twayF)) :: (z0, .inr (9, [.ref znodes, .ref zpasses, .ref zjars, .ref zorders, .ref zfeasts, .ref zway, .int zws, .int znow, .int zfm, .int zx])) :: (znodes, .inr (6, [.int 4, .ref znodesA, .int znodesS])) :: (znodesA, .inl (kA 0, 48, .inl znodesF)) :: (zpasses, .inr (6, [.int 5, .ref zpassesA, .int zpassesS])) :: (zpassesA, .inl (kA 0, 100, .inl zpassesF)) :: (zjars, .inr (6, [.int 9, .ref zjarsA, .int zjarsS])) :: (zjarsA, .inl (kA 0, 144, .inl zjarsF)) :: (zorders, .inr (6, [.int 4, .ref zordersA, .int zordersS])) :: (zordersA, .inl (kA 0, 24, .inl zordersF)) :: (zfeasts, .inr (6, [.int 3, .ref zfeastsA, .int zfeastsS])) :: (zfeastsA, .inl (kA 0, 24, .inl zfeastsF)) :: (zway, .inr (6, [.int 1, .ref zwayA, .int zwayS])) :: (zwayA, .inl (kA 0, 6, .inl zwayF)) :: (h0, .inr (0, [.ref s0])) :: (s0, .inr (4, [.ref cW, .int cb, .int ch, .int co])) :: (cW, .inl (kA 0, 11, .inl cF)) :: (t0, .inr (7, [.int t_drops, .int t_hour, .int t_warmth, .int t_needed, .int t_felt, .int t_salt, .ref l9, .ref w0, .ref s1])) :: (s1, .inr (4, [.ref ddW, .int ddb, .int ddh, .int ddo])) :: (ddW, .inl (kA 0, 11, .inl ddF)) :: (q0, .inr (5, [.int q_left, .int q_leaving, .int q_length, .int q_target, .int q_barred, .int q_latest, .int q_waited, .int q_any, .ref qf, .ref qr, .ref qb, .ref w0, .ref t0])) :: (qf, .inl (kA 0, 12, .inl qfF)) :: (qr, .inl (kA 0, 6, .inl qrF)) :: (qb, .inl (kA 0, 6, .inl qbF)) :: (v0, .inr (8, [.int v_found, .int v_due, .ref va, .ref vb, .ref vc, .ref w0, .ref t0])) :: (va, .inl (kA 0, 6, .inl vaF)) :: (vb, .inl (kA 0, 6, .inl vbF)) :: (vc, .inl (kA 0, 6, .inl vcF)) :: (m0, .inr (3, [.int k_paid, .ref ko, .ref kc, .ref w0])) :: (ko, .inl (kA 0, 6, .inl koF)) :: (kc, .inl (kA 0, 6, .inl kcF)) :: (rdr, .inr (2, [.ref rt, .ref rp, .int r_tokenCount, .int r_next, .int r_fault, .int r_parts, .int r_chained, .ref l8])) :: (rt, .inl (kA 0, 401, .inl rtF)) :: (rp, .inl (kA 0, 401, .inl rpF)) :: []
def lw (kA : Nat → ClassId) (l0 : Nat) (ysorts : Nat) (ysumStarts : Nat) (ysumStops : Nat) (ytestStarts : Nat) (ytestStops : Nat) (yjoins : Nat) (yoperands : Nat) (yfactStarts : Nat) (yfactMiddles : Nat) (yfactStops : Nat) (ysigns : Nat) (ytests : Nat) (ysortsF : Nat → Int32) (ysumStartsF : Nat → Int32) (ysumStopsF : Nat → Int32) (ytestStartsF : Nat → Int32) (ytestStopsF : Nat → Int32) (yjoinsF : Nat → Int32) (yoperandsF : Nat → Int32) (yfactStartsF : Nat → Int32) (yfactMiddlesF : Nat → Int32) (yfactStopsF : Nat → Int32) (ysignsF : Nat → Int32) (ytestsF : Nat → Int32) (ychain : Int32) (yclauses : Int32) (yvalues : Int32) (yfacts : Int32) (ysteps : Int32) : va_W := (l0, .inr (1, [.int ychain, .int yclauses, .ref ysorts, .ref ysumStarts, .ref ysumStops, .ref ytestStarts, .ref ytestStops, .int yvalues, .ref yjoins, .ref yoperands, .int yfacts, .ref yfactStarts, .ref yfactMiddles, .ref yfactStops, .ref ysigns, .int ysteps, .ref ytests])) :: (ysorts, .inl (kA 0, 12, .inl ysortsF)) :: (ysumStarts, .inl (kA 0, 12, .inl ysumStartsF)) :: (ysumStops, .inl (kA 0, 12, .inl ysumStopsF)) :: (ytestStarts, .inl (kA 0, 12, .inl ytestStartsF)) :: (ytestStops, .inl (kA 0, 12, .inl ytestStopsF)) :: (yjoins, .inl (kA 0, 60, .inl yjoinsF)) :: (yoperands, .inl (kA 0, 60, .inl yoperandsF)) :: (yfactStarts, .inl (kA 0, 20, .inl yfactStartsF)) :: (yfactMiddles, .inl (kA 0, 20, .inl yfactMiddlesF)) :: (yfactStops, .inl (kA 0, 20, .inl yfactStopsF)) :: (ysigns, .inl (kA 0, 20, .inl ysignsF)) :: (ytests, .inl (kA 0, 256, .inl ytestsF)) :: []
def iw (kA : Nat → ClassId) (i0 : Nat) (inodes : Nat) (inodesA : Nat) (inodesS : Int32) (inodesF : Nat → Int32) (ipasses : Nat) (ipassesA : Nat) (ipassesS : Int32) (ipassesF : Nat → Int32) (ijars : Nat) (ijarsA : Nat) (ijarsS : Int32) (ijarsF : Nat → Int32) (iorders : Nat) (iordersA : Nat) (iordersS : Int32) (iordersF : Nat → Int32) (ifeasts : Nat) (ifeastsA : Nat) (ifeastsS : Int32) (ifeastsF : Nat → Int32) (iway : Nat) (iwayA : Nat) (iwayS : Int32) (iwayF : Nat → Int32) (iws : Int32) (inow : Int32) (ifm : Int32) (ix : Int32) : va_W := (i0, .inr (9, [.ref inodes, .ref ipasses, .ref ijars, .ref iorders, .ref ifeasts, .ref iway, .int iws, .int inow, .int ifm, .int ix])) :: (inodes, .inr (6, [.int 4, .ref inodesA, .int inodesS])) :: (inodesA, .inl (kA 0, 48, .inl inodesF)) :: (ipasses, .inr (6, [.int 5, .ref ipassesA, .int ipassesS])) :: (ipassesA, .inl (kA 0, 100, .inl ipassesF)) :: (ijars, .inr (6, [.int 9, .ref ijarsA, .int ijarsS])) :: (ijarsA, .inl (kA 0, 144, .inl ijarsF)) :: (iorders, .inr (6, [.int 4, .ref iordersA, .int iordersS])) :: (iordersA, .inl (kA 0, 24, .inl iordersF)) :: (ifeasts, .inr (6, [.int 3, .ref ifeastsA, .int ifeastsS])) :: (ifeastsA, .inl (kA 0, 24, .inl ifeastsF)) :: (iway, .inr (6, [.int 1, .ref iwayA, .int iwayS])) :: (iwayA, .inl (kA 0, 6, .inl iwayF)) :: []
def mw (kA : Nat → ClassId) (n0 : Nat) (m_taped : Int32) (m_laws : Int32) (m_next : Int32) (m_wrong : Int32) (m_number : Int32) (m_text : Int32) (m_made : Int32) (m_deep : Int32) (m_lines : Int32) (m_opened : Int32) (m_top : Int32) (m_goNode : Int32) (m_goDrops : Int32) (m_goHour : Int32) (m_goFelt : Int32) (m_goSalt : Int32) (m_goMore : Int32) (m_bestLeft : Int32) (m_bestHour : Int32) (m_bestMany : Int32) (a_tape : Nat) (a_sign : Nat) (a_length : Nat) (a_clause : Nat) (a_clauses : Nat) (a_chain : Nat) (a_open : Nat) (a_stack : Nat) (a_word : Nat) (a_said : Nat) (a_kept : Nat) (a_stepNode : Nat) (a_stepDrops : Nat) (a_stepHour : Nat) (a_stepNext : Nat) (a_stepPass : Nat) (a_bestPass : Nat) (a_far : Nat) (a_waited : Nat) (a_servers : Nat) (a_images : Nat) (a_isMade : Nat) (tapeF : Nat → Int32) (signF : Nat → Int32) (lengthF : Nat → Int32) (clauseF : Nat → Int32) (clausesF : Nat → Int32) (chainF : Nat → Int32) (openF : Nat → Int32) (stackF : Nat → Int64) (wordF : Nat → Int64) (saidF : Nat → Int32) (keptF : Nat → Int32) (stepNodeF : Nat → Int32) (stepDropsF : Nat → Int32) (stepHourF : Nat → Int32) (stepNextF : Nat → Int32) (stepPassF : Nat → Int32) (bestPassF : Nat → Int32) (farF : Nat → Int32) (waitedF : Nat → Int32) (serversF : Nat → Int32) (imagesF : Nat → Int32) (isMadeF : Nat → Int32) : va_W := (n0, .inr (11, .ref a_tape :: .int m_taped :: .int m_laws :: .ref a_sign :: .ref a_length :: .ref a_clause :: .ref a_clauses :: .ref a_chain :: .int m_next :: .int m_wrong :: .int m_number :: .int m_text :: .int m_made :: .int m_deep :: .int m_lines :: .ref a_open :: .int m_opened :: .ref a_stack :: .int m_top :: .ref a_word :: .ref a_said :: .ref a_kept :: [.int m_goNode, .int m_goDrops, .int m_goHour, .int m_goFelt, .int m_goSalt, .int m_goMore, .ref a_stepNode, .ref a_stepDrops, .ref a_stepHour, .ref a_stepNext, .ref a_stepPass, .int m_bestLeft, .int m_bestHour, .int m_bestMany, .ref a_bestPass, .ref a_far, .ref a_waited, .ref a_servers, .ref a_images, .ref a_isMade])) :: (a_tape, .inl (kA 1, 400, .inl tapeF)) :: (a_sign, .inl (kA 0, 2400, .inl signF)) :: (a_length, .inl (kA 0, 6, .inl lengthF)) :: (a_clause, .inl (kA 0, 360, .inl clauseF)) :: (a_clauses, .inl (kA 0, 6, .inl clausesF)) :: (a_chain, .inl (kA 0, 6, .inl chainF)) :: (a_open, .inl (kA 0, 400, .inl openF)) :: (a_stack, .inl (kA 2, 64, .inr (.inl stackF))) :: (a_word, .inl (kA 2, 11, .inr (.inl wordF))) :: (a_said, .inl (kA 0, 360, .inl saidF)) :: (a_kept, .inl (kA 0, 360, .inl keptF)) :: (a_stepNode, .inl (kA 0, 7, .inl stepNodeF)) :: (a_stepDrops, .inl (kA 0, 7, .inl stepDropsF)) :: (a_stepHour, .inl (kA 0, 7, .inl stepHourF)) :: (a_stepNext, .inl (kA 0, 7, .inl stepNextF)) :: (a_stepPass, .inl (kA 0, 7, .inl stepPassF)) :: (a_bestPass, .inl (kA 0, 6, .inl bestPassF)) :: (a_far, .inl (kA 0, 12, .inl farF)) :: (a_waited, .inl (kA 0, 6, .inl waitedF)) :: (a_servers, .inl (kA 0, 6, .inl serversF)) :: (a_images, .inl (kA 0, 1440, .inl imagesF)) :: (a_isMade, .inl (kA 3, 4, .inl isMadeF)) :: []
def IsLaw4 (kA : Nat → ClassId) (l0 : Nat) (b : Prop) (L : Cls) (P : va_W) : Prop := ∀ Pq : Prop, (∀ (ysorts : Nat) (ysumStarts : Nat) (ysumStops : Nat) (ytestStarts : Nat) (ytestStops : Nat) (yjoins : Nat) (yoperands : Nat) (yfactStarts : Nat) (yfactMiddles : Nat) (yfactStops : Nat) (ysigns : Nat) (ytests : Nat) (ysortsF : Nat → Int32) (ysumStartsF : Nat → Int32) (ysumStopsF : Nat → Int32) (ytestStartsF : Nat → Int32) (ytestStopsF : Nat → Int32) (yjoinsF : Nat → Int32) (yoperandsF : Nat → Int32) (yfactStartsF : Nat → Int32) (yfactMiddlesF : Nat → Int32) (yfactStopsF : Nat → Int32) (ysignsF : Nat → Int32) (ytestsF : Nat → Int32) (ychain : Int32) (yclauses : Int32) (yvalues : Int32) (yfacts : Int32) (ysteps : Int32), P = lw kA l0 ysorts ysumStarts ysumStops ytestStarts ytestStops yjoins yoperands yfactStarts yfactMiddles yfactStops ysigns ytests ysortsF ysumStartsF ysumStopsF ytestStartsF ytestStopsF yjoinsF yoperandsF yfactStartsF yfactMiddlesF yfactStopsF ysignsF ytestsF ychain yclauses yvalues yfacts ysteps → (b → LWX ysortsF ysumStartsF ysumStopsF ytestStartsF ytestStopsF yjoinsF yoperandsF yfactStartsF yfactMiddlesF yfactStopsF ysignsF ytestsF yclauses L ∧ ychain = chn 0 L) → Pq) → Pq
theorem IsLaw4_mono {kA : Nat → ClassId} {l0 : Nat} {b b2 : Prop} {L L2 : Cls} {P : va_W} (h : IsLaw4 kA l0 b L P) (f : b2 → b ∧ L2 = L) : IsLaw4 kA l0 b2 L2 P := fun Pq kq => h Pq (fun ysorts ysumStarts ysumStops ytestStarts ytestStops yjoins yoperands yfactStarts yfactMiddles yfactStops ysigns ytests ysortsF ysumStartsF ysumStopsF ytestStartsF ytestStopsF yjoinsF yoperandsF yfactStartsF yfactMiddlesF yfactStopsF ysignsF ytestsF ychain yclauses yvalues yfacts ysteps e m => kq ysorts ysumStarts ysumStops ytestStarts ytestStops yjoins yoperands yfactStarts yfactMiddles yfactStops ysigns ytests ysortsF ysumStartsF ysumStopsF ytestStartsF ytestStopsF yjoinsF yoperandsF yfactStartsF yfactMiddlesF yfactStopsF ysignsF ytestsF ychain yclauses yvalues yfacts ysteps e (fun q => by obtain ⟨b1, e2⟩ := f q; rw [e2]; exact m b1))
def IsImg4 (kA : Nat → ClassId) (i0 : Nat) (c : Nat → Int32) (P : va_W) : Prop := ∀ Pq : Prop, (∀ (inodes : Nat) (inodesA : Nat) (inodesS : Int32) (inodesF : Nat → Int32) (ipasses : Nat) (ipassesA : Nat) (ipassesS : Int32) (ipassesF : Nat → Int32) (ijars : Nat) (ijarsA : Nat) (ijarsS : Int32) (ijarsF : Nat → Int32) (iorders : Nat) (iordersA : Nat) (iordersS : Int32) (iordersF : Nat → Int32) (ifeasts : Nat) (ifeastsA : Nat) (ifeastsS : Int32) (ifeastsF : Nat → Int32) (iway : Nat) (iwayA : Nat) (iwayS : Int32) (iwayF : Nat → Int32) (iws : Int32) (inow : Int32) (ifm : Int32) (ix : Int32), P = iw kA i0 inodes inodesA inodesS inodesF ipasses ipassesA ipassesS ipassesF ijars ijarsA ijarsS ijarsF iorders iordersA iordersS iordersF ifeasts ifeastsA ifeastsS ifeastsF iway iwayA iwayS iwayF iws inow ifm ix → X4 c inodesS ipassesS ijarsS iordersS ifeastsS inow ifm ix iws iwayS inodesF ipassesF ijarsF iordersF ifeastsF iwayF → Pq) → Pq
theorem pas (a b c : va_W) : ((a ++ b) ++ c).Perm (a ++ (b ++ c)) := List.Perm.of_eq (List.append_assoc a b c)
theorem lc_ok {e x : Int32} (h : e = x ∨ e = x + 1) (h0 : ¬ x < 0) (h6 : ¬ 6 ≤ x) : (¬ e < 0) ∧ ¬ 6 < e := by
  rcases h with h | h
  · rw [h]; grind
  · rw [h]; grind
theorem lc_st {e x : Int32} {i : Nat} (h : e = x ∨ e = x + 1) (h0 : ¬ x < 0) (h6 : ¬ 6 ≤ x) (hi : i ≠ x.toNatClampNeg) (hl : (i : Int) < e.toInt) : (i : Int) < x.toInt := by
  have a := zc_eq h0
  have b : x.toInt < 6 := by
    rw [Int32.le_iff_toInt_le, show (6 : Int32).toInt = 6 from by decide] at h6
    omega
  rcases h with h | h
  · rw [h] at hl; exact hl
  · rw [h, show (x + 1).toInt = x.toInt + 1 from zadd1 (by omega)] at hl
    omega
theorem wi_4 {k : Int32} (h : ¬ wi k 3 = 0) : k.toNatClampNeg < 4 := by
  obtain ⟨a, b⟩ := wi_ne h
  have g := mt Int32.lt_iff_toInt_lt.mpr b
  rw [show (3 : Int32).toInt = 3 from by decide] at g
  show k.toInt.toNat < 4
  omega
theorem li_3 (k : Int32) : li k.toInt64 0 3 = wi k 3 := li_wj (hi := 3) (by decide)
def im_r (im : Nat → Option (Nat → Int32)) (k : Int32) (cn : Nat → Int32) : Nat → Option (Nat → Int32) := if wi k 3 = 0 then im else iup im k.toNatClampNeg cn
/-- laws and images that lie beside the object -/
def Bag4 (kA : Nat → ClassId) (xq xi : Nat → Option Nat) (lc : Int32) (LL : Nat → Cls) (im : Nat → Option (Nat → Int32)) (T : va_W) : Prop := ∃ (P : Nat → va_W) (J : va_W), T.Perm (flatN P 10 ++ J) ∧ (∀ j : Nat, j < 6 → ∀ l, xq j = some l → IsLaw4 kA l ((j : Int) < lc.toInt) (LL j) (P j)) ∧ (∀ j : Nat, j < 6 → (j : Int) < lc.toInt → xq j ≠ none) ∧ ∀ k : Nat, k < 4 → (xi k = none ∧ im k = none) ∨ ∃ (i : Nat) (c : Nat → Int32), xi k = some i ∧ im k = some c ∧ IsImg4 kA i c (P (6 + k))
theorem Bag4_law {kA : Nat → ClassId} {xq xi : Nat → Option Nat} {lc : Int32} {LL : Nat → Cls} {im : Nat → Option (Nat → Int32)} {T : va_W} {j l0 : Nat} (h : Bag4 kA xq xi lc LL im T) (hj : j < 6) (hq : xq j = some l0) : ∃ P T2, IsLaw4 kA l0 ((j : Int) < lc.toInt) (LL j) P ∧ T.Perm (P ++ T2) ∧ ∀ (lc2 : Int32) (L2 : Nat → Cls) (P2 : va_W), IsLaw4 kA l0 ((j : Int) < lc2.toInt) (L2 j) P2 → (∀ i : Nat, i ≠ j → (i : Int) < lc2.toInt → (i : Int) < lc.toInt ∧ L2 i = LL i) → Bag4 kA xq xi lc2 L2 im (P2 ++ T2) := by
  obtain ⟨P, J, hp, hl, hn, hi⟩ := h
  refine ⟨P j, flatN (pup P j []) 10 ++ J, hl j hj l0 hq, ?_, fun lc2 L2 P2 h2 hc => ⟨pup P j P2, J, ?_, fun i hi2 l hl2 => ?_, fun i hi2 hl2 => ?_, fun k hk => ?_⟩⟩
  · exact hp.trans (((flat_pull 10 (by omega)).append_right _).trans (pas _ _ _))
  · exact (pas _ _ _).symm.trans ((flat_put P2 (by omega)).symm.append_right _)
  · by_cases e : i = j
    · subst e
      rw [pup_at]
      rw [hq] at hl2
      cases hl2
      exact h2
    · rw [pup_ne e]; exact IsLaw4_mono (hl i hi2 l hl2) (hc i e)
  · by_cases e : i = j
    · subst e
      rw [hq]
      exact fun q => by cases q
    · exact hn i hi2 (hc i e hl2).1
  · rw [pup_ne (by omega)]; exact hi k hk
theorem Bag4_newlaw {kA : Nat → ClassId} {xq xi : Nat → Option Nat} {lc lc2 : Int32} {LL L2 : Nat → Cls} {im : Nat → Option (Nat → Int32)} {T P2 : va_W} {j n0 : Nat} (h : Bag4 kA xq xi lc LL im T) (hj : j < 6) (h2 : IsLaw4 kA n0 ((j : Int) < lc2.toInt) (L2 j) P2) (hc : ∀ i : Nat, i ≠ j → (i : Int) < lc2.toInt → (i : Int) < lc.toInt ∧ L2 i = LL i) : Bag4 kA (va_up xq j (some n0)) xi lc2 L2 im (P2 ++ T) := by
  obtain ⟨P, J, hp, hl, hn, hi⟩ := h
  refine ⟨pup P j P2, P j ++ J, ?_, fun i hi2 l hl2 => ?_, fun i hi2 hl2 => ?_, fun k hk => ?_⟩
  · have a1 : (P2 ++ T).Perm (P2 ++ ((flatN (pup P j []) 10 ++ P j) ++ J)) := (hp.trans (((flat_pull 10 (by omega)).trans List.perm_append_comm).append_right _)).append_left _
    have a2 : (flatN (pup P j P2) 10 ++ (P j ++ J)).Perm ((P2 ++ flatN (pup P j []) 10) ++ (P j ++ J)) := (flat_put P2 (by omega)).append_right _
    refine a1.trans (List.Perm.trans ?_ a2.symm)
    exact List.Perm.of_eq (by simp [List.append_assoc])
  · by_cases e : i = j
    · subst e
      rw [pup_at]
      rw [vup_at] at hl2
      cases hl2
      exact h2
    · rw [pup_ne e]
      rw [vup_ne e] at hl2
      exact IsLaw4_mono (hl i hi2 l hl2) (hc i e)
  · by_cases e : i = j
    · subst e
      rw [vup_at]
      exact fun q => by cases q
    · rw [vup_ne e]
      exact hn i hi2 (hc i e hl2).1
  · rw [pup_ne (by omega)]; exact hi k hk
theorem Bag4_img {kA : Nat → ClassId} {xq xi : Nat → Option Nat} {lc : Int32} {LL : Nat → Cls} {im : Nat → Option (Nat → Int32)} {T : va_W} {k i0 : Nat} (h : Bag4 kA xq xi lc LL im T) (hk : k < 4) (hq : xi k = some i0) : ∃ c P T2, im k = some c ∧ IsImg4 kA i0 c P ∧ T.Perm (P ++ T2) ∧ (∀ P2, IsImg4 kA i0 c P2 → Bag4 kA xq xi lc LL im (P2 ++ T2)) ∧ ∀ c2 P2, IsImg4 kA i0 c2 P2 → Bag4 kA xq xi lc LL (iup im k c2) (P2 ++ T2) := by
  obtain ⟨P, J, hp, hl, hn, hi⟩ := h
  rcases hi k hk with ⟨q1, _⟩ | ⟨i, c, q1, q2, q3⟩
  · rw [hq] at q1; cases q1
  · rw [hq] at q1
    cases q1
    have pp : ∀ P2 : va_W, (P2 ++ (flatN (pup P (6 + k) []) 10 ++ J)).Perm (flatN (pup P (6 + k) P2) 10 ++ J) := fun P2 => (pas _ _ _).symm.trans ((flat_put P2 (by omega)).symm.append_right _)
    refine ⟨c, P (6 + k), flatN (pup P (6 + k) []) 10 ++ J, q2, q3, ?_, fun P2 h2 => ⟨pup P (6 + k) P2, J, pp P2, fun j hj l hl2 => ?_, hn, fun k2 hk2 => ?_⟩, fun c2 P2 h2 => ⟨pup P (6 + k) P2, J, pp P2, fun j hj l hl2 => ?_, hn, fun k2 hk2 => ?_⟩⟩
    · exact hp.trans (((flat_pull 10 (by omega)).append_right _).trans (pas _ _ _))
    · rw [pup_ne (by omega)]; exact hl j hj l hl2
    · by_cases e : k2 = k
      · subst e
        rw [pup_at]
        exact Or.inr ⟨i0, c, hq, q2, h2⟩
      · rw [pup_ne (by omega)]; exact hi k2 hk2
    · rw [pup_ne (by omega)]; exact hl j hj l hl2
    · by_cases e : k2 = k
      · subst e
        rw [pup_at, iup_at]
        exact Or.inr ⟨i0, c2, hq, rfl, h2⟩
      · rw [pup_ne (by omega), iup_ne e]; exact hi k2 hk2
theorem Bag4_noimg {kA : Nat → ClassId} {xq xi : Nat → Option Nat} {lc : Int32} {LL : Nat → Cls} {im : Nat → Option (Nat → Int32)} {T : va_W} {k : Nat} (h : Bag4 kA xq xi lc LL im T) (hk : k < 4) (hq : xi k = none) : im k = none := by
  obtain ⟨P, J, hp, hl, hn, hi⟩ := h
  rcases hi k hk with ⟨_, q2⟩ | ⟨i, c, q1, _⟩
  · exact q2
  · rw [hq] at q1; cases q1
theorem Bag4_newimg {kA : Nat → ClassId} {xq xi : Nat → Option Nat} {lc : Int32} {LL : Nat → Cls} {im : Nat → Option (Nat → Int32)} {T P2 : va_W} {k n0 : Nat} {c2 : Nat → Int32} (h : Bag4 kA xq xi lc LL im T) (hk : k < 4) (h2 : IsImg4 kA n0 c2 P2) : Bag4 kA xq (va_up xi k (some n0)) lc LL (iup im k c2) (P2 ++ T) := by
  obtain ⟨P, J, hp, hl, hn, hi⟩ := h
  refine ⟨pup P (6 + k) P2, P (6 + k) ++ J, ?_, fun i hi2 l hl2 => ?_, hn, fun k2 hk2 => ?_⟩
  · have a1 : (P2 ++ T).Perm (P2 ++ ((flatN (pup P (6 + k) []) 10 ++ P (6 + k)) ++ J)) := (hp.trans (((flat_pull 10 (by omega)).trans List.perm_append_comm).append_right _)).append_left _
    have a2 : (flatN (pup P (6 + k) P2) 10 ++ (P (6 + k) ++ J)).Perm ((P2 ++ flatN (pup P (6 + k) []) 10) ++ (P (6 + k) ++ J)) := (flat_put P2 (by omega)).append_right _
    refine a1.trans (List.Perm.trans ?_ a2.symm)
    exact List.Perm.of_eq (by simp [List.append_assoc])
  · rw [pup_ne (by omega)]; exact hl i hi2 l hl2
  · by_cases e : k2 = k
    · subst e
      rw [pup_at, iup_at, vup_at]
      exact Or.inr ⟨n0, c2, rfl, rfl, h2⟩
    · rw [pup_ne (by omega), iup_ne e, vup_ne e]; exact hi k2 hk2
theorem Bag4_0 {kA : Nat → ClassId} {LL : Nat → Cls} : Bag4 kA (fun _ => none) (fun _ => none) 0 LL (fun _ => none) [] := ⟨fun _ => [], [], List.Perm.refl _, fun _ _ _ h => (by cases h), fun j _ hj => (by rw [z_i0] at hj; omega), fun _ _ => Or.inl ⟨rfl, rfl⟩⟩
theorem Bag4_g {kA : Nat → ClassId} {xq xi : Nat → Option Nat} {lc : Int32} {LL : Nat → Cls} {im : Nat → Option (Nat → Int32)} {T : va_W} {g : Nat → Int32} (h : Bag4 kA xq xi lc LL im T) : Bag4 kA xq xi lc LL (iup im 4 g) T := by
  obtain ⟨P, J, hp, hl, hn, hi⟩ := h
  exact ⟨P, J, hp, hl, hn, fun k hk => by rw [iup_ne (by omega)]; exact hi k hk⟩
theorem Bag4_la {kA : Nat → ClassId} {xq xi : Nat → Option Nat} {lc : Int32} {LL : Nat → Cls} {im : Nat → Option (Nat → Int32)} {T : va_W} (h : Bag4 kA xq xi lc LL im T) : Bag4 kA xq xi lc LL (la_im im) T := by
  unfold la_im
  split
  · exact h
  · exact Bag4_g h
theorem Bag4_none {kA : Nat → ClassId} {xq xi : Nat → Option Nat} {lc p : Int32} {LL : Nat → Cls} {im : Nat → Option (Nat → Int32)} {T : va_W} (h : Bag4 kA xq xi lc LL im T) (h6 : ¬ 6 < lc) (hs0 : sel p lc xq = none) : hs p lc = 0 := by
  obtain ⟨P, J, hp, hl, hn, hi⟩ := h
  by_cases c : hs p lc = 0
  · exact c
  · obtain ⟨p0, p1⟩ := hs_r c
    have tp := tn_eq p0
    have l6 := i_le h6
    rw [show (6 : Int32).toInt = 6 from by decide] at l6
    have e1 : (lc - 1).toInt = lc.toInt - 1 := zsub (by rw [show (1 : Int32).toInt = 1 from by decide]; omega) (by rw [show (1 : Int32).toInt = 1 from by decide]; omega)
    unfold sel at hs0
    have w : ¬ wi p (lc - 1) = 0 := by
      unfold wi
      rw [if_neg (z_nlt0 p0), if_neg (by rw [Int32.lt_iff_toInt_lt]; omega)]
      decide
    rw [if_neg w, if_neg (by rw [Int32.le_iff_toInt_le, show (6 : Int32).toInt = 6 from by decide]; omega)] at hs0
    exact absurd hs0 (hn _ (by omega) (by omega))
theorem sel_lt {p lc : Int32} {xq : Nat → Option Nat} {l : Nat} (h0 : ¬ lc < 0) (h6 : ¬ 6 < lc) (hs0 : sel p lc xq = some l) : (¬ hs p lc = 0) ∧ ((p.toNatClampNeg : Nat) : Int) < lc.toInt := by
  have l6 := i_le h6
  have l0 := i_ge h0
  rw [show (6 : Int32).toInt = 6 from by decide] at l6
  rw [z_i0] at l0
  unfold sel at hs0
  by_cases w : wi p (lc - 1) = 0
  · rw [if_pos w] at hs0; cases hs0
  · obtain ⟨p0, p1⟩ := wi_r w
    have tp := tn_eq p0
    have e1 : (lc - 1).toInt = lc.toInt - 1 := zsub (by rw [show (1 : Int32).toInt = 1 from by decide]; omega) (by rw [show (1 : Int32).toInt = 1 from by decide]; omega)
    rw [e1] at p1
    exact ⟨hs_in (z_nlt0 p0) (by rw [Int32.le_iff_toInt_le]; omega), by omega⟩
def XOK4 (kA : Nat → ClassId) (x0 : Nat) (S : Nat → Int32) (LL : Nat → Cls) (im : Nat → Option (Nat → Int32)) (ws : va_W) : Prop := ∀ Pq : Prop, (∀ (z0 : Nat) (xi : Nat) (xt : Nat) (xq : Nat) (rdr : Nat) (h0 : Nat) (t0 : Nat) (q0 : Nat) (v0 : Nat) (m0 : Nat) (w0 : Nat) (x_tl : Int32) (x_lc : Int32) (xtF : Nat → Int32) (xiF : Nat → Option Nat) (xqF : Nat → Option Nat) (tnodes : Nat) (tnodesA : Nat) (tnodesS : Int32) (tnodesF : Nat → Int32) (tpasses : Nat) (tpassesA : Nat) (tpassesS : Int32) (tpassesF : Nat → Int32) (tjars : Nat) (tjarsA : Nat) (tjarsS : Int32) (tjarsF : Nat → Int32) (torders : Nat) (tordersA : Nat) (tordersS : Int32) (tordersF : Nat → Int32) (tfeasts : Nat) (tfeastsA : Nat) (tfeastsS : Int32) (tfeastsF : Nat → Int32) (tway : Nat) (twayA : Nat) (twayS : Int32) (twayF : Nat → Int32) (tws : Int32) (tnow : Int32) (tfm : Int32) (tx : Int32) (znodes : Nat) (znodesA : Nat) (znodesS : Int32) (znodesF : Nat → Int32) (zpasses : Nat) (zpassesA : Nat) (zpassesS : Int32) (zpassesF : Nat → Int32) (zjars : Nat) (zjarsA : Nat) (zjarsS : Int32) (zjarsF : Nat → Int32) (zorders : Nat) (zordersA : Nat) (zordersS : Int32) (zordersF : Nat → Int32) (zfeasts : Nat) (zfeastsA : Nat) (zfeastsS : Int32) (zfeastsF : Nat → Int32) (zway : Nat) (zwayA : Nat) (zwayS : Int32) (zwayF : Nat → Int32) (zws : Int32) (znow : Int32) (zfm : Int32) (zx : Int32) (s0 : Nat) (cW : Nat) (cF : Nat → Int32) (cb : Int32) (ch : Int32) (co : Int32) (s1 : Nat) (ddW : Nat) (ddF : Nat → Int32) (ddb : Int32) (ddh : Int32) (ddo : Int32) (t_drops : Int32) (t_hour : Int32) (t_warmth : Int32) (t_needed : Int32) (t_felt : Int32) (t_salt : Int32) (l9 : Nat) (l8 : Nat) (q_left : Int32) (q_leaving : Int32) (q_length : Int32) (q_target : Int32) (q_barred : Int32) (q_latest : Int32) (q_waited : Int32) (q_any : Int32) (qf : Nat) (qr : Nat) (qb : Nat) (qfF : Nat → Int32) (qrF : Nat → Int32) (qbF : Nat → Int32) (v_found : Int32) (v_due : Int32) (va : Nat) (vb : Nat) (vc : Nat) (vaF : Nat → Int32) (vbF : Nat → Int32) (vcF : Nat → Int32) (k_paid : Int32) (ko : Nat) (kc : Nat) (koF : Nat → Int32) (kcF : Nat → Int32) (r_tokenCount : Int32) (r_next : Int32) (r_fault : Int32) (r_parts : Int32) (r_chained : Int32) (rt : Nat) (rp : Nat) (rtF : Nat → Int32) (rpF : Nat → Int32) (T : va_W), ws.Perm (xw kA x0 z0 xi xt xq rdr h0 t0 q0 v0 m0 w0 x_tl x_lc xtF xiF xqF tnodes tnodesA tnodesS tnodesF tpasses tpassesA tpassesS tpassesF tjars tjarsA tjarsS tjarsF torders tordersA tordersS tordersF tfeasts tfeastsA tfeastsS tfeastsF tway twayA twayS twayF tws tnow tfm tx znodes znodesA znodesS znodesF zpasses zpassesA zpassesS zpassesF zjars zjarsA zjarsS zjarsF zorders zordersA zordersS zordersF zfeasts zfeastsA zfeastsS zfeastsF zway zwayA zwayS zwayF zws znow zfm zx s0 cW cF cb ch co s1 ddW ddF ddb ddh ddo t_drops t_hour t_warmth t_needed t_felt t_salt l9 l8 q_left q_leaving q_length q_target q_barred q_latest q_waited q_any qf qr qb qfF qrF qbF v_found v_due va vb vc vaF vbF vcF k_paid ko kc koF kcF r_tokenCount r_next r_fault r_parts r_chained rt rp rtF rpF ++ T) → X4 S tnodesS tpassesS tjarsS tordersS tfeastsS tnow tfm tx tws twayS tnodesF tpassesF tjarsF tordersF tfeastsF twayF → (¬ x_tl < 0) → ((¬ x_lc < 0) ∧ ¬ 6 < x_lc) → XG im x_lc x_tl xtF → Bag4 kA xqF xiF x_lc LL im T → Pq) → Pq
def MOK4 (kA : Nat → ClassId) (n0 : Nat) (S : Nat → Int32) (LL : Nat → Cls) (im : Nat → Option (Nat → Int32)) (ws : va_W) : Prop := ∀ Pq : Prop, (∀ (m_taped : Int32) (m_laws : Int32) (m_next : Int32) (m_wrong : Int32) (m_number : Int32) (m_text : Int32) (m_made : Int32) (m_deep : Int32) (m_lines : Int32) (m_opened : Int32) (m_top : Int32) (m_goNode : Int32) (m_goDrops : Int32) (m_goHour : Int32) (m_goFelt : Int32) (m_goSalt : Int32) (m_goMore : Int32) (m_bestLeft : Int32) (m_bestHour : Int32) (m_bestMany : Int32) (a_tape : Nat) (a_sign : Nat) (a_length : Nat) (a_clause : Nat) (a_clauses : Nat) (a_chain : Nat) (a_open : Nat) (a_stack : Nat) (a_word : Nat) (a_said : Nat) (a_kept : Nat) (a_stepNode : Nat) (a_stepDrops : Nat) (a_stepHour : Nat) (a_stepNext : Nat) (a_stepPass : Nat) (a_bestPass : Nat) (a_far : Nat) (a_waited : Nat) (a_servers : Nat) (a_images : Nat) (a_isMade : Nat) (tapeF : Nat → Int32) (signF : Nat → Int32) (lengthF : Nat → Int32) (clauseF : Nat → Int32) (clausesF : Nat → Int32) (chainF : Nat → Int32) (openF : Nat → Int32) (stackF : Nat → Int64) (wordF : Nat → Int64) (saidF : Nat → Int32) (keptF : Nat → Int32) (stepNodeF : Nat → Int32) (stepDropsF : Nat → Int32) (stepHourF : Nat → Int32) (stepNextF : Nat → Int32) (stepPassF : Nat → Int32) (bestPassF : Nat → Int32) (farF : Nat → Int32) (waitedF : Nat → Int32) (serversF : Nat → Int32) (imagesF : Nat → Int32) (isMadeF : Nat → Int32), ws.Perm (mw kA n0 m_taped m_laws m_next m_wrong m_number m_text m_made m_deep m_lines m_opened m_top m_goNode m_goDrops m_goHour m_goFelt m_goSalt m_goMore m_bestLeft m_bestHour m_bestMany a_tape a_sign a_length a_clause a_clauses a_chain a_open a_stack a_word a_said a_kept a_stepNode a_stepDrops a_stepHour a_stepNext a_stepPass a_bestPass a_far a_waited a_servers a_images a_isMade tapeF signF lengthF clauseF clausesF chainF openF stackF wordF saidF keptF stepNodeF stepDropsF stepHourF stepNextF stepPassF bestPassF farF waitedF serversF imagesF isMadeF) → saidF = S → GD S → XT S → Linv m_laws signF clauseF clausesF → ((¬ m_taped < 0) ∧ ¬ 400 < m_taped) → IMS4 im imagesF isMadeF → MG im m_laws m_taped tapeF → RLW m_laws signF clauseF clausesF chainF LL → Pq) → Pq
theorem MOK4_gd {kA : Nat → ClassId} {n0 : Nat} {S : Nat → Int32} {LL : Nat → Cls} {im : Nat → Option (Nat → Int32)} {ws : va_W} (h : MOK4 kA n0 S LL im ws) : GD S := by
  refine h _ (fun m_taped m_laws m_next m_wrong m_number m_text m_made m_deep m_lines m_opened m_top m_goNode m_goDrops m_goHour m_goFelt m_goSalt m_goMore m_bestLeft m_bestHour m_bestMany a_tape a_sign a_length a_clause a_clauses a_chain a_open a_stack a_word a_said a_kept a_stepNode a_stepDrops a_stepHour a_stepNext a_stepPass a_bestPass a_far a_waited a_servers a_images a_isMade tapeF signF lengthF clauseF clausesF chainF openF stackF wordF saidF keptF stepNodeF stepDropsF stepHourF stepNextF stepPassF bestPassF farF waitedF serversF imagesF isMadeF hp hS hgd hxt hli htp him hg hrl => ?_)
  exact hgd
theorem MOK4_xt {kA : Nat → ClassId} {n0 : Nat} {S : Nat → Int32} {LL : Nat → Cls} {im : Nat → Option (Nat → Int32)} {ws : va_W} (h : MOK4 kA n0 S LL im ws) : XT S := by
  refine h _ (fun m_taped m_laws m_next m_wrong m_number m_text m_made m_deep m_lines m_opened m_top m_goNode m_goDrops m_goHour m_goFelt m_goSalt m_goMore m_bestLeft m_bestHour m_bestMany a_tape a_sign a_length a_clause a_clauses a_chain a_open a_stack a_word a_said a_kept a_stepNode a_stepDrops a_stepHour a_stepNext a_stepPass a_bestPass a_far a_waited a_servers a_images a_isMade tapeF signF lengthF clauseF clausesF chainF openF stackF wordF saidF keptF stepNodeF stepDropsF stepHourF stepNextF stepPassF bestPassF farF waitedF serversF imagesF isMadeF hp hS hgd hxt hli htp him hg hrl => ?_)
  exact hxt
theorem MOK4_gr {kA : Nat → ClassId} {n0 : Nat} {S : Nat → Int32} {LL : Nat → Cls} {im : Nat → Option (Nat → Int32)} {ws : va_W} (h : MOK4 kA n0 S LL im ws) : GR im := by
  refine h _ (fun m_taped m_laws m_next m_wrong m_number m_text m_made m_deep m_lines m_opened m_top m_goNode m_goDrops m_goHour m_goFelt m_goSalt m_goMore m_bestLeft m_bestHour m_bestMany a_tape a_sign a_length a_clause a_clauses a_chain a_open a_stack a_word a_said a_kept a_stepNode a_stepDrops a_stepHour a_stepNext a_stepPass a_bestPass a_far a_waited a_servers a_images a_isMade tapeF signF lengthF clauseF clausesF chainF openF stackF wordF saidF keptF stepNodeF stepDropsF stepHourF stepNextF stepPassF bestPassF farF waitedF serversF imagesF isMadeF hp hS hgd hxt hli htp him hg hrl => ?_)
  obtain ⟨_, h1, H⟩ := hg
  exact ⟨h1 ▸ H.1, h1 ▸ H.2.1⟩
theorem MOK4_gx {kA : Nat → ClassId} {n0 : Nat} {S : Nat → Int32} {LL : Nat → Cls} {im : Nat → Option (Nat → Int32)} {ws : va_W} (h : MOK4 kA n0 S LL im ws) : GX im := by
  refine h _ (fun m_taped m_laws m_next m_wrong m_number m_text m_made m_deep m_lines m_opened m_top m_goNode m_goDrops m_goHour m_goFelt m_goSalt m_goMore m_bestLeft m_bestHour m_bestMany a_tape a_sign a_length a_clause a_clauses a_chain a_open a_stack a_word a_said a_kept a_stepNode a_stepDrops a_stepHour a_stepNext a_stepPass a_bestPass a_far a_waited a_servers a_images a_isMade tapeF signF lengthF clauseF clausesF chainF openF stackF wordF saidF keptF stepNodeF stepDropsF stepHourF stepNextF stepPassF bestPassF farF waitedF serversF imagesF isMadeF hp hS hgd hxt hli htp him hg hrl => ?_)
  obtain ⟨_, h1, H⟩ := hg
  exact ⟨tapeF, h1 ▸ H⟩
theorem GD_cr {S : Nat → Int32} (g : GD S) : CR S := ⟨g.1.2.1, g.1.2.2.1, g.1.2.2.2.1, g.1.2.2.2.2.1, g.1.2.2.2.2.2.1⟩
theorem x4_tickw {S : Nat → Int32} {zn zp zj zo zf nw fm x ws zw : Int32} {nF pF jF oF fF wF : Nat → Int32} {cF so s1 s2 t1 t2 yj yo y1 y2 y3 y4 y5 : Nat → Int32} {cb cc co yc ych c p : Int32} {L : Cls} {w : Int32 × Int32 × (Nat → Int32) × (Nat → Int32) × Int32 × Int32 × Int32 × (Nat → Int32) × Int32} (h : X4 S zn zp zj zo zf nw fm x ws zw nF pF jF oF fF wF) (g : GD S) (hL : LWX so s1 s2 t1 t2 yj yo y1 y2 y3 y4 y5 yc L) (hc : ych = c) (e : w = fX10_tick_yes zn nF zp pF zj jF nw fm x cF cb cc co so s1 s2 t1 t2 yj yo y1 y2 y3 y4 y5 ych yc p) : w.2.2.2.2.2.2.2.2 = tkA S L c p ∧ X4 (tkS S L c p) zn zp zj zo zf w.1 fm w.2.1 ws zw w.2.2.1 pF w.2.2.2.1 oF fF wF := by
  subst hc
  have hh := h
  obtain ⟨⟨h0, h1, h2, h3, h4⟩, ⟨h5, h6, h7, h8, h9⟩, hnF, hpF, hjF, hoF, hfF, hwF⟩ := hh
  obtain ⟨nF', jF', cb', cc', co', cF', q, q2, q3⟩ := cls_tick (cF := cF) (cb := cb) (cc := cc) (co := co) (ch := ych) (p := p) hL g.2.1 h0.symm h1.symm h2.symm h5.symm h6.symm h7.symm hnF hpF hjF
  rw [q] at e
  subst e
  exact ⟨rfl, x4_tick h g rfl rfl q2 q3⟩
theorem x4_img {S : Nat → Int32} {zn zp zj zo zf nw fm x ws zw : Int32} {nF pF jF oF fF wF : Nat → Int32} {b1 b2 b3 b4 b5 b6 : Nat → Int32} {w : (Nat → Int32) × (Nat → Int32) × (Nat → Int32) × (Nat → Int32) × (Nat → Int32) × (Nat → Int32)} (h : X4 S zn zp zj zo zf nw fm x ws zw nF pF jF oF fF wF) (e : w = fX10_image_some nF pF jF oF fF wF b1 b2 b3 b4 b5 b6) : X4 S zn zp zj zo zf nw fm x ws zw w.1 w.2.1 w.2.2.1 w.2.2.2.1 w.2.2.2.2.1 w.2.2.2.2.2 := by
  subst e
  obtain ⟨a, b, hnF, hpF, hjF, hoF, hfF, hwF⟩ := h
  exact ⟨a, b, NE_cc hnF, PE_cp hpF, JE_cc hjF, OE_cc hoF, FE_cc hfF, WE_cp hwF⟩
theorem x4_imgn {S : Nat → Int32} {zn zp zj zo zf nw fm x ws zw : Int32} {nF pF jF oF fF wF : Nat → Int32} {w : (Nat → Int32) × (Nat → Int32) × (Nat → Int32) × (Nat → Int32) × (Nat → Int32) × (Nat → Int32)} (h : X4 S zn zp zj zo zf nw fm x ws zw nF pF jF oF fF wF) (e : w = fX10_image_none nF pF jF oF fF wF) : X4 S zn zp zj zo zf nw fm x ws zw w.1 w.2.1 w.2.2.1 w.2.2.2.1 w.2.2.2.2.1 w.2.2.2.2.2 := by
  subst e
  obtain ⟨a, b, hnF, hpF, hjF, hoF, hfF, hwF⟩ := h
  exact ⟨a, b, NE_cn hnF, PE_cpn hpF, JE_cn hjF, OE_cn hoF, FE_cn hfF, WE_cpn hwF⟩
theorem x4_bk {S : Nat → Int32} {zn zp zj zo zf nw fm x ws zw : Int32} {nF pF jF oF fF wF : Nat → Int32} {b1 b2 b3 b4 b5 b6 : Nat → Int32} {w : (Nat → Int32) × (Nat → Int32) × (Nat → Int32) × (Nat → Int32) × (Nat → Int32) × (Nat → Int32)} (h : X4 S zn zp zj zo zf nw fm x ws zw nF pF jF oF fF wF) (e : w = fX10_back_some b1 b2 b3 b4 b5 b6 nF pF jF oF fF wF) : X4 S zn zp zj zo zf nw fm x ws zw w.1 w.2.1 w.2.2.1 w.2.2.2.1 w.2.2.2.2.1 w.2.2.2.2.2 := by
  subst e
  obtain ⟨a, b, hnF, hpF, hjF, hoF, hfF, hwF⟩ := h
  exact ⟨a, b, NE_cb hnF, PE_cpb hpF, JE_cb hjF, OE_cb hoF, FE_cb hfF, WE_cpb hwF⟩
theorem bk4_0 {im : Nat → Option (Nat → Int32)} {k : Int32} {S : Nat → Int32} (h : wi k 3 = 0) : bk4 im k S = S ∧ bkA im k = -1 := ⟨if_pos h, if_pos h⟩
theorem bk4_n {im : Nat → Option (Nat → Int32)} {k : Int32} {S : Nat → Int32} (h : ¬ wi k 3 = 0) (e : im k.toNatClampNeg = none) : bk4 im k S = S ∧ bkA im k = -1 := by
  unfold bk4 bkA
  rw [if_neg h, if_neg h, e]
  exact ⟨rfl, rfl⟩
theorem bk4_s {im : Nat → Option (Nat → Int32)} {k : Int32} {S c : Nat → Int32} (h : ¬ wi k 3 = 0) (e : im k.toNatClampNeg = some c) : bk4 im k S = bkW c S ∧ bkA im k = c 5 := by
  unfold bk4 bkA
  rw [if_neg h, if_neg h, e]
  exact ⟨rfl, rfl⟩
