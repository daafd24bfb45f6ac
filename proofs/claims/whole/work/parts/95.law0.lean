

structure IB (st : Nat) (wd : Nat) (al : Nat) (sA : Nat) (nY : Nat) (nT : Nat) (rm : Nat) (ro : Nat) (rN : Nat) (nV : Nat) (nK_ : Nat) (fQ : Nat → Option Nat) (fO : Nat → Option Nat) (fU : Nat → Option Nat) (aR : Nat → Nat) (aS : Nat → Nat) (aI : Nat → Nat) : Prop where
  q1 : 1 ≤ st
  q2 : st ≤ 65536
  q3 : wd ≤ 10
  q4 : al ≤ 24
  gA : sA = al * (al + 1) / 2
  gY : nY = wd * (wd + 1) / 2
  gT : nT = nY * sA
  grm : rm = wd * al
  gro : ro = wd * al
  grN : rN = wd * al
  gnV : nV = wd * ((al + 1) / 2)
  gnK : nK_ = wd * al
  gq : ∀ i, i < 6 → fQ i = some (aR i)
  go : ∀ i, i < 6 → fO i = some (aS i)
  gu : ∀ i, i < 3 → fU i = some (aI i)
structure IF_ (nf : Nat) (mg : Nat) (fF : Nat → Option Nat) (adF : Nat → Nat) (fd : Nat → Nat → Int) : Prop where
  gm : mg ≤ 65536
  gF : FOK nf fd
  gf : ∀ i, i < nf → fF i = some (adF i)
structure IS (bw : Nat) (fT : Nat → Option Nat) (ns : Nat) (adS : Nat → Nat) (sw : Nat → Nat) (sp : Nat → Nat) (sn : Nat → Int) (lo : Nat → Nat) (hi : Nat → Nat) (sa : Nat → Int32) (sal : Nat → Nat → Bool) : Prop where
  g8 : ns ≤ 8
  gt : ∀ i, i < ns → fT i = some (adS i)
  gb : bw ≤ 16777216
  gL : ∀ j, j < ns → lo j ≤ 65536 ∧ hi j ≤ 65536
  ga : ∀ j, j < ns → sa j = Mk (sal j) 16
  gS2 : ∀ j, j < ns → (1 ≤ sw j ∧ sw j ≤ 65536) ∧ 1 ≤ lo j ∧ (1 ≤ sp j ∧ sp j ≤ 100000)
  gn : ∀ i, i < ns → -1 ≤ sn i ∧ sn i ≤ 1000
  gn1 : ∀ i, ns ≤ i → i < 8 → sn i = -1
  gal1 : ∀ j, ns ≤ j → sal j = (fun _ => false)
structure IG (wf : Nat → Int64) (gs : Nat → Bool) : Prop where
  gG : GB wf gs
structure IT (nT : Nat) (fZ : Nat → Option Nat) (aL : Nat → Nat) (l0 : Nat) (b0 : Nat) (s0 : Nat) (l1 : Nat) (b1 : Nat) (s1 : Nat) (l2 : Nat) (b2 : Nat) (s2 : Nat) (l3 : Nat) (b3 : Nat) (s3 : Nat) (t : Nat → Int) (t1 : Nat → Int) (t2 : Nat → Int) (t3 : Nat → Int) : Prop where
  gl : ∀ i, i < 4 → fZ i = some (aL i)
  hl0 : (l0 = nT ∧ b0 = 0 ∧ s0 = 0) ∨ (l0 = 0 ∧ b0 = 1 ∧ s0 = nT)
  hl1 : (l1 = nT ∧ b1 = 0 ∧ s1 = 0) ∨ (l1 = 0 ∧ b1 = 1 ∧ s1 = nT)
  hl2 : (l2 = nT ∧ b2 = 0 ∧ s2 = 0) ∨ (l2 = 0 ∧ b2 = 1 ∧ s2 = nT)
  hl3 : (l3 = nT ∧ b3 = 0 ∧ s3 = 0) ∨ (l3 = 0 ∧ b3 = 1 ∧ s3 = nT)
  gb0 : ∀ q, q < l0 → 0 ≤ t q ∧ t q ≤ 2457600000
  gb1 : ∀ q, q < l1 → 0 ≤ t1 q ∧ t1 q ≤ 58982400000
  gb2 : ∀ q, q < l2 → 0 ≤ t2 q ∧ t2 q ≤ 1415577600000
  gb3 : ∀ q, q < l3 → 0 ≤ t3 q ∧ t3 q ≤ 33973862400000
structure IN (rN : Nat) (lN : Nat) (bN : Nat) (sN : Nat) : Prop where
  hlN : (lN = (rN + 1) * 101 ∧ bN = 0 ∧ sN = 0) ∨ (lN = 0 ∧ bN = 1 ∧ sN = (rN + 1) * 101)
structure IP (wd : Nat) (al : Nat) (np : Nat) (cn : Nat → Nat) (f0 : Nat → Nat) (f1 : Nat → Nat) (f2 : Nat → Nat) (f3 : Nat → Nat) (f4 : Nat → Nat) (p0 : Nat → Nat) (p1 : Nat → Nat) (p2 : Nat → Nat) (p3 : Nat → Nat) (p4 : Nat → Nat) (bd : Int) (Pl : List Pc) : Prop where
  hnp : np = Pl.length
  hPw : Pl.length ≤ wd * al
  hPa : ∀ p9, p9 ∈ Pl → pcOK al wd 8 p9
  hpf : isPL f0 f1 f2 f3 f4 Pl
  hpp : isPL p0 p1 p2 p3 p4 Pl
  hcn : ∀ i, i < 8 → cn i = cntL i Pl
  hbd : -1000000000000000 ≤ bd ∧ bd ≤ 1000000000000000
structure ID (md : Nat) (wy : Nat) (sg_ : Nat) : Prop where
  gmd : md ≤ 1
  gwy : wy ≤ 1
  gsg : 1 ≤ sg_ ∧ sg_ ≤ 3
structure IM (md : Nat) (al : Nat) (wd : Nat) (st : Nat) (nf : Nat) (mg : Nat) (fd : Nat → Nat → Int) (fX : Nat → Int32) (fY : Nat → Int32) (np : Nat) (f2 : Nat → Nat) (f4 : Nat → Nat) (f5 : Nat → Nat) (sp : Nat → Nat) (tot : Int) (ns : Nat) (pr : Nat → Int) (lp : Nat → Int) (Pl : List Pc) : Prop where
  hmx : md = 1 → ∀ n b, 1 ≤ n → n ≤ al → b < n → fX (n * (n - 1) / 2 + b) = Mk (fM fd mg 1 (b * st) (n * st)) nf
  hmy : md = 1 → ∀ n b, 1 ≤ n → n ≤ wd → b < n → fY (n * (n - 1) / 2 + b) = Mk (fM fd mg 0 (b * st) (n * st)) nf
  hm5 : md = 1 → ∀ k, k < np → f5 k = sp (f4 k) * f2 k
  hmt : md = 1 → tot = wL (fun j9 => ((sp j9 : Nat) : Int)) Pl
  hmn : md = 1 → ∀ p9, p9 ∈ Pl → p9.2.2.2.2 < ns
  hmp : md = 1 → ∀ j, j < ns → pr j = lp j ∧ (-1000000000000 ≤ pr j ∧ pr j ≤ 1000000000000)
/-- the law's world -/
abbrev LW (ty : Nat → ClassId) (hU : Nat) (hF : Nat) (hB : Nat) (hT : Nat) (hG : Nat) (hC : Nat) (hQ : Nat) (hO : Nat) (hV : Nat) (hN : Nat) (aF : Nat) (aX : Nat) (aY : Nat) (aT : Nat) (aZ : Nat) (aE : Nat) (aG : Nat) (aQ : Nat) (aC : Nat) (aO : Nat) (aD : Nat) (aU : Nat) (aK : Nat) (hM : Nat) (aR : Nat → Nat) (aS : Nat → Nat) (aI : Nat → Nat) (aM : Nat → Nat) (st : Nat) (wd : Nat) (al : Nat) (sA : Nat) (nY : Nat) (nT : Nat) (rm : Nat) (ro : Nat) (rN : Nat) (nV : Nat) (nK_ : Nat) (fQ : Nat → Option Nat) (fO : Nat → Option Nat) (fU : Nat → Option Nat) (ov : Nat → Int) (wy : Nat) (sg_ : Nat) (md : Nat) (bd : Int) (nf : Nat) (mg : Nat) (fF : Nat → Option Nat) (adF : Nat → Nat) (fd : Nat → Nat → Int) (fX : Nat → Int32) (fY : Nat → Int32) (bw : Nat) (fT : Nat → Option Nat) (ns : Nat) (adS : Nat → Nat) (sw : Nat → Nat) (sp : Nat → Nat) (sn : Nat → Int) (pr : Nat → Int) (sl : Nat → Nat) (sm : Nat → Nat) (sb : Nat → Int32) (lo : Nat → Nat) (hi : Nat → Nat) (sa : Nat → Int32) (sal : Nat → Nat → Bool) (tx0 : Nat) (tp0 : Nat) (tb0 : Int32) (fZ : Nat → Option Nat) (aL : Nat → Nat) (l0 : Nat) (b0 : Nat) (s0 : Nat) (l1 : Nat) (b1 : Nat) (s1 : Nat) (l2 : Nat) (b2 : Nat) (s2 : Nat) (l3 : Nat) (b3 : Nat) (s3 : Nat) (t : Nat → Int) (t1 : Nat → Int) (t2 : Nat → Int) (t3 : Nat → Int) (re : Nat → Int) (tl : Bool) (wf : Nat → Int64) (gs : Nat → Bool) (np : Nat) (tot : Int) (cn : Nat → Nat) (f0 : Nat → Nat) (f1 : Nat → Nat) (f2 : Nat → Nat) (f3 : Nat → Nat) (f4 : Nat → Nat) (f5 : Nat → Nat) (no : Nat) (to : Int) (h0 : Nat → Nat) (h1 : Nat → Nat) (h2 : Nat → Nat) (h3 : Nat → Nat) (h4 : Nat → Nat) (h5 : Nat → Nat) (dn : Nat → Nat) (sv : Nat) (w0 : Nat → Nat) (w1 : Nat → Nat) (w2 : Nat → Nat) (kv : Nat → Bool) (aW : Nat) (lN : Nat) (bN : Nat) (sN : Nat) (fe : Nat → Nat) (cd : Nat) (ks : Nat) (prM : Nat → Int) (lp : Nat → Int) (vA : Nat → Int) (cA : Nat → Nat) (wA : Nat → Nat) (vB : Nat → Int) (cB : Nat → Nat) (vC : Nat → Int) (cC : Nat → Nat) (reM : Nat → Int) (rcM : Nat → Nat) (p0 : Nat → Nat) (p1 : Nat → Nat) (p2 : Nat → Nat) (p3 : Nat → Nat) (p4 : Nat → Nat) (kp : Nat → Nat) (cv : Nat → Bool) (feM : Nat → Nat) (Pl : List Pc) : va_W := (WP [(hU, .inl (ty 1, 1, .inr (.inl (lF ov)))), (hF, .inr (9, [.ref hB, .ref hT, .ref hG, .ref hC, .ref hQ, .ref hO, .ref hV, .ref hN, .int (nI wy), .int (nI sg_), .int (nI md), .long (iL bd)])), (hB, .inr (0, [.int (nI st), .int (nI wd), .int (nI al), .ref aF, .int (nI nf), .int (nI mg), .ref aX, .ref aY])), (aF, .inl (ty 3, 20, .inr (.inr (.inr (.inr fF))))), (aX, .inl (ty 0, sA, .inl fX)), (aY, .inl (ty 0, nY, .inl fY)), (hT, .inr (8, [.ref aT, .int (nI ns), .int (nI bw), .ref hB])), (aT, .inl (ty 4, 8, .inr (.inr (.inr (.inr fT))))), (hC, .inr (1, [.ref hB, .ref hT, .int (nI sA), .ref aZ, .ref aE, .int (nI tx0), .int (nI tp0), .int tb0])), (aZ, .inl (ty 6, 4, .inr (.inr (.inr (.inr fZ))))), (aL 0, .inl (ty 1, l0, .inr (.inl (lF t)))), (aL 1, .inl (ty 1, l1, .inr (.inl (lF t1)))), (aL 2, .inl (ty 1, l2, .inr (.inl (lF t2)))), (aL 3, .inl (ty 1, l3, .inr (.inl (lF t3)))), (aE, .inl (ty 1, 25, .inr (.inl (lF re)))), (hG, .inr (3, [.ref aG, .int (nI tl.toNat)])), (aG, .inl (ty 1, 1025, .inr (.inl wf))), (hQ, .inr (6, [.ref aQ, .ref aC, .int (nI np), .long (iL tot), .int (nI rm)])), (aQ, .inl (ty 5, 6, .inr (.inr (.inr (.inr fQ))))), (aR 0, .inl (ty 0, rm, .inl (nF f0))), (aR 1, .inl (ty 0, rm, .inl (nF f1))), (aR 2, .inl (ty 0, rm, .inl (nF f2))), (aR 3, .inl (ty 0, rm, .inl (nF f3))), (aR 4, .inl (ty 0, rm, .inl (nF f4))), (aR 5, .inl (ty 0, rm, .inl (nF f5))), (aC, .inl (ty 0, 8, .inl (nF cn))), (hO, .inr (6, [.ref aO, .ref aD, .int (nI no), .long (iL to), .int (nI ro)])), (aO, .inl (ty 5, 6, .inr (.inr (.inr (.inr fO))))), (aS 0, .inl (ty 0, ro, .inl (nF h0))), (aS 1, .inl (ty 0, ro, .inl (nF h1))), (aS 2, .inl (ty 0, ro, .inl (nF h2))), (aS 3, .inl (ty 0, ro, .inl (nF h3))), (aS 4, .inl (ty 0, ro, .inl (nF h4))), (aS 5, .inl (ty 0, ro, .inl (nF h5))), (aD, .inl (ty 0, 8, .inl (nF dn))), (hV, .inr (4, [.ref aU, .int (nI sv), .int (nI wd), .int (nI al), .ref aK])), (aU, .inl (ty 5, 3, .inr (.inr (.inr (.inr fU))))), (aI 0, .inl (ty 0, nV, .inl (nF w0))), (aI 1, .inl (ty 0, nV, .inl (nF w1))), (aI 2, .inl (ty 0, nV, .inl (nF w2))), (aK, .inl (ty 2, nK_, .inl (bF kv))), (hN, .inr (5, [.int (nI rN), .ref aW])), (aW, .inl (ty 0, lN, .inl (nF fe))), (hM, .inr (10, mO cd st al wd nf ns tl.toNat mg bw md wy sg_ np ks bd aM)), (aM 5, .inl (ty 0, 20, .inl (zF (col fd 0)))), (aM 6, .inl (ty 0, 20, .inl (zF (col fd 1)))), (aM 7, .inl (ty 0, 20, .inl (zF (col fd 2)))), (aM 8, .inl (ty 0, 20, .inl (zF (col fd 3)))), (aM 9, .inl (ty 0, 20, .inl (zF (col fd 4)))), (aM 10, .inl (ty 0, 20, .inl (zF (col fd 5)))), (aM 12, .inl (ty 0, 8, .inl (nF sw))), (aM 13, .inl (ty 0, 8, .inl (nF lo))), (aM 14, .inl (ty 0, 8, .inl (nF hi))), (aM 15, .inl (ty 1, 8, .inr (.inl (lF (fun j9 => ((sp j9 : Nat) : Int)))))), (aM 16, .inl (ty 2, 128, .inl (bF (fun i9 => sal (i9 / 16) (i9 % 16))))), (aM 17, .inl (ty 0, 8, .inl (zF sn))), (aM 18, .inl (ty 1, 8, .inr (.inl (lF prM)))), (aM 19, .inl (ty 1, 8, .inr (.inl (lF lp)))), (aM 20, .inl (ty 2, 65537, .inl (bF gs))), (aM 24, .inl (ty 1, 75625, .inr (.inl (lF vA)))), (aM 25, .inl (ty 0, 75625, .inl (nF cA))), (aM 26, .inl (ty 0, 75625, .inl (nF wA))), (aM 27, .inl (ty 1, 75625, .inr (.inl (lF vB)))), (aM 28, .inl (ty 0, 75625, .inl (nF cB))), (aM 29, .inl (ty 1, 75625, .inr (.inl (lF vC)))), (aM 30, .inl (ty 0, 75625, .inl (nF cC))), (aM 31, .inl (ty 1, 128, .inr (.inl (lF reM)))), (aM 32, .inl (ty 0, 128, .inl (nF rcM))), (aM 37, .inl (ty 0, 240, .inl (nF p0))), (aM 38, .inl (ty 0, 240, .inl (nF p1))), (aM 39, .inl (ty 0, 240, .inl (nF p2))), (aM 40, .inl (ty 0, 240, .inl (nF p3))), (aM 41, .inl (ty 0, 240, .inl (nF p4))), (aM 43, .inl (ty 0, 1200, .inl (nF kp))), (aM 45, .inl (ty 2, 240, .inl (bF cv))), (aM 46, .inl (ty 0, 24341, .inl (nF feM)))] (PLd nf adF fd ns adS sw sp sn pr sl sm sb lo hi sa))
/-- where the law stands: its machine, its code, its script -/
structure LX (p : Program) (l : Launch) (s : State) (m : MethodId) (meth : Method) (c : Code) (G : va_G) (ty : Nat → ClassId) (A : Nat → Prop) (b L : Nat) (xs : Nat → Int32) : Prop where
  hx : p.tables.exec = Jvm.exec
  hb : c.code = code
  hml : c.maxLocals = 8
  hown : s.vm.findClass R_Law = some m.cls
  hts : ∀ w ∈ TB, w.before #[Value.ref b] s = true
  hlt : l.stackTraces = false
  hX : KX G ty s
  hZ : ZS s
  hZA : ∀ (q : Nat) (c : Cell), s.heap[q]? = some c → c.vm.isStatics = true → ¬ A q
  hA : ∀ q, s.heap.size ≤ q → A q
  hsx : va_X b L xs s s.heap
  hbl : b < s.heap.size
  hbA : ¬ A b
  hL : L ≤ 3587
theorem i32_z (x : Int32) : ∃ z : Int, x = iI z ∧ (-2147483648 ≤ z ∧ z ≤ 2147483647) := ⟨x.toInt, by unfold iI; exact (Int32.ofInt_toInt x).symm, by have h1 := x.le_toInt; have h2 := x.toInt_le; exact ⟨h1, h2⟩⟩
theorem i64_z (x : Int64) : ∃ z : Int, x = iL z ∧ (-9223372036854775808 ≤ z ∧ z ≤ 9223372036854775807) := ⟨x.toInt, by unfold iL; exact (Int64.ofInt_toInt x).symm, by have h1 := x.le_toInt; have h2 := x.toInt_le; exact ⟨h1, h2⟩⟩

/-- the law goes on behind a call, wherever the world is as it should be -/
def LK (p : Program) (l : Launch) (e : Env) (s : State) (m : MethodId) (below : List Frame) (meth : Method) (c : Code) (G : va_G) (ty : Nat → ClassId) (A : Nat → Prop) (b ix kc ks : Nat) (hU : Nat) (hF : Nat) (hB : Nat) (hT : Nat) (hG : Nat) (hC : Nat) (hQ : Nat) (hO : Nat) (hV : Nat) (hN : Nat) (aF : Nat) (aX : Nat) (aY : Nat) (aT : Nat) (aZ : Nat) (aE : Nat) (aG : Nat) (aQ : Nat) (aC : Nat) (aO : Nat) (aD : Nat) (aU : Nat) (aK : Nat) (hM : Nat) (aR : Nat → Nat) (aS : Nat → Nat) (aI : Nat → Nat) (aM : Nat → Nat) (st : Nat) (wd : Nat) (al : Nat) (sA : Nat) (nY : Nat) (nT : Nat) (rm : Nat) (ro : Nat) (rN : Nat) (nV : Nat) (nK_ : Nat) (fQ : Nat → Option Nat) (fO : Nat → Option Nat) (fU : Nat → Option Nat) : Prop := ∀ (ov : Nat → Int) (wy : Nat) (sg_ : Nat) (md : Nat) (bd : Int) (nf : Nat) (mg : Nat) (fF : Nat → Option Nat) (adF : Nat → Nat) (fd : Nat → Nat → Int) (fX : Nat → Int32) (fY : Nat → Int32) (bw : Nat) (fT : Nat → Option Nat) (ns : Nat) (adS : Nat → Nat) (sw : Nat → Nat) (sp : Nat → Nat) (sn : Nat → Int) (pr : Nat → Int) (sl : Nat → Nat) (sm : Nat → Nat) (sb : Nat → Int32) (lo : Nat → Nat) (hi : Nat → Nat) (sa : Nat → Int32) (sal : Nat → Nat → Bool) (tx0 : Nat) (tp0 : Nat) (tb0 : Int32) (fZ : Nat → Option Nat) (aL : Nat → Nat) (l0 : Nat) (b0 : Nat) (s0 : Nat) (l1 : Nat) (b1 : Nat) (s1 : Nat) (l2 : Nat) (b2 : Nat) (s2 : Nat) (l3 : Nat) (b3 : Nat) (s3 : Nat) (t : Nat → Int) (t1 : Nat → Int) (t2 : Nat → Int) (t3 : Nat → Int) (re : Nat → Int) (tl : Bool) (wf : Nat → Int64) (gs : Nat → Bool) (np : Nat) (tot : Int) (cn : Nat → Nat) (f0 : Nat → Nat) (f1 : Nat → Nat) (f2 : Nat → Nat) (f3 : Nat → Nat) (f4 : Nat → Nat) (f5 : Nat → Nat) (no : Nat) (to : Int) (h0 : Nat → Nat) (h1 : Nat → Nat) (h2 : Nat → Nat) (h3 : Nat → Nat) (h4 : Nat → Nat) (h5 : Nat → Nat) (dn : Nat → Nat) (sv : Nat) (w0 : Nat → Nat) (w1 : Nat → Nat) (w2 : Nat → Nat) (kv : Nat → Bool) (aW : Nat) (lN : Nat) (bN : Nat) (sN : Nat) (fe : Nat → Nat) (cd : Nat) (ks : Nat) (prM : Nat → Int) (lp : Nat → Int) (vA : Nat → Int) (cA : Nat → Nat) (wA : Nat → Nat) (vB : Nat → Int) (cB : Nat → Nat) (vC : Nat → Int) (cC : Nat → Nat) (reM : Nat → Int) (rcM : Nat → Nat) (p0 : Nat → Nat) (p1 : Nat → Nat) (p2 : Nat → Nat) (p3 : Nat → Nat) (p4 : Nat → Nat) (kp : Nat → Nat) (cv : Nat → Bool) (feM : Nat → Nat) (Pl : List Pc) (H : Heap) (locs : List Loc) (cells slots : Nat) (ls : Array Slot), IF_ nf mg fF adF fd → IS bw fT ns adS sw sp sn lo hi sa sal → IG wf gs → IT nT fZ aL l0 b0 s0 l1 b1 s1 l2 b2 s2 l3 b3 s3 t t1 t2 t3 → IN rN lN bN sN → IP wd al np cn f0 f1 f2 f3 f4 p0 p1 p2 p3 p4 bd Pl → ID md wy sg_ → IM md al wd st nf mg fd fX fY np f2 f4 f5 sp tot ns pr lp Pl → cells + (b0 + b1 + b2 + b3 + bN) ≤ kc → slots + (s0 + s1 + s2 + s3 + sN) ≤ ks → va_P G vwCl (LW ty hU hF hB hT hG hC hQ hO hV hN aF aX aY aT aZ aE aG aQ aC aO aD aU aK hM aR aS aI aM st wd al sA nY nT rm ro rN nV nK_ fQ fO fU ov wy sg_ md bd nf mg fF adF fd fX fY bw fT ns adS sw sp sn pr sl sm sb lo hi sa sal tx0 tp0 tb0 fZ aL l0 b0 s0 l1 b1 s1 l2 b2 s2 l3 b3 s3 t t1 t2 t3 re tl wf gs np tot cn f0 f1 f2 f3 f4 f5 no to h0 h1 h2 h3 h4 h5 dn sv w0 w1 w2 kv aW lN bN sN fe cd ks prM lp vA cA wA vB cB vC cC reM rcM p0 p1 p2 p3 p4 kp cv feM Pl) H → va_D A (LW ty hU hF hB hT hG hC hQ hO hV hN aF aX aY aT aZ aE aG aQ aC aO aD aU aK hM aR aS aI aM st wd al sA nY nT rm ro rN nV nK_ fQ fO fU ov wy sg_ md bd nf mg fF adF fd fX fY bw fT ns adS sw sp sn pr sl sm sb lo hi sa sal tx0 tp0 tb0 fZ aL l0 b0 s0 l1 b1 s1 l2 b2 s2 l3 b3 s3 t t1 t2 t3 re tl wf gs np tot cn f0 f1 f2 f3 f4 f5 no to h0 h1 h2 h3 h4 h5 dn sv w0 w1 w2 kv aW lN bN sN fe cd ks prM lp vA cA wA vB cB vC cC reM rcM p0 p1 p2 p3 p4 kp cv feM Pl) → va_S A s.heap H locs → lv_has ls 8 [(0, .ref b), (1, .ref hF), (2, .ref hM), (3, .ref hU), (4, .int (nI ix))] → W p l e room_1 s m #[Value.ref b] below meth c H locs cells slots (lw_Z below #[Value.ref b] s) (F0 m 1347 ls [])

