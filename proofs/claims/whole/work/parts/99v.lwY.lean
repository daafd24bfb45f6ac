

theorem lw_loop {p : Program} {l : Launch} {e : Env} {s : State} {m : MethodId} {below : List Frame} {meth : Method} {c : Code} {G : va_G} {ty : Nat → ClassId} {A : Nat → Prop} {b L : Nat} {xs : Nat → Int32} (X : LX p l s m meth c G ty A b L xs) (hr : meth.sig.returnType = ret) (hlk : meth.locks = false) (hAs : ∀ q, A q → s.heap.size ≤ q) {hU : Nat} {hF : Nat} {hB : Nat} {hT : Nat} {hG : Nat} {hC : Nat} {hQ : Nat} {hO : Nat} {hV : Nat} {hN : Nat} {aF : Nat} {aX : Nat} {aY : Nat} {aT : Nat} {aZ : Nat} {aE : Nat} {aG : Nat} {aQ : Nat} {aC : Nat} {aO : Nat} {aD : Nat} {aU : Nat} {aK : Nat} {hM : Nat} {aR : Nat → Nat} {aS : Nat → Nat} {aI : Nat → Nat} {aM : Nat → Nat} {st : Nat} {wd : Nat} {al : Nat} {sA : Nat} {nY : Nat} {nT : Nat} {rm : Nat} {ro : Nat} {rN : Nat} {nV : Nat} {nK_ : Nat} {fQ : Nat → Option Nat} {fO : Nat → Option Nat} {fU : Nat → Option Nat} (iB : IB st wd al sA nY nT rm ro rN nV nK_ fQ fO fU aR aS aI) {K0 S0 : Nat} (hK0 : K0 + 4000 ≤ 601024) (hS0 : S0 + 40000 ≤ 7293000) : ∀ (n : Nat) (ov : Nat → Int) (wy : Nat) (sg_ : Nat) (md : Nat) (bd : Int) (nf : Nat) (mg : Nat) (fF : Nat → Option Nat) (adF : Nat → Nat) (fd : Nat → Nat → Int) (fX : Nat → Int32) (fY : Nat → Int32) (bw : Nat) (fT : Nat → Option Nat) (ns : Nat) (adS : Nat → Nat) (sw : Nat → Nat) (sp : Nat → Nat) (sn : Nat → Int) (pr : Nat → Int) (sl : Nat → Nat) (sm : Nat → Nat) (sb : Nat → Int32) (lo : Nat → Nat) (hi : Nat → Nat) (sa : Nat → Int32) (sal : Nat → Nat → Bool) (tx0 : Nat) (tp0 : Nat) (tb0 : Int32) (fZ : Nat → Option Nat) (aL : Nat → Nat) (l0 : Nat) (b0 : Nat) (s0 : Nat) (l1 : Nat) (b1 : Nat) (s1 : Nat) (l2 : Nat) (b2 : Nat) (s2 : Nat) (l3 : Nat) (b3 : Nat) (s3 : Nat) (t : Nat → Int) (t1 : Nat → Int) (t2 : Nat → Int) (t3 : Nat → Int) (re : Nat → Int) (tl : Bool) (wf : Nat → Int64) (gs : Nat → Bool) (np : Nat) (tot : Int) (cn : Nat → Nat) (f0 : Nat → Nat) (f1 : Nat → Nat) (f2 : Nat → Nat) (f3 : Nat → Nat) (f4 : Nat → Nat) (f5 : Nat → Nat) (no : Nat) (to : Int) (h0 : Nat → Nat) (h1 : Nat → Nat) (h2 : Nat → Nat) (h3 : Nat → Nat) (h4 : Nat → Nat) (h5 : Nat → Nat) (dn : Nat → Nat) (sv : Nat) (w0 : Nat → Nat) (w1 : Nat → Nat) (w2 : Nat → Nat) (kv : Nat → Bool) (aW : Nat) (lN : Nat) (bN : Nat) (sN : Nat) (fe : Nat → Nat) (cd : Nat) (ks : Nat) (prM : Nat → Int) (lp : Nat → Int) (vA : Nat → Int) (cA : Nat → Nat) (wA : Nat → Nat) (vB : Nat → Int) (cB : Nat → Nat) (vC : Nat → Int) (cC : Nat → Nat) (reM : Nat → Int) (rcM : Nat → Nat) (p0 : Nat → Nat) (p1 : Nat → Nat) (p2 : Nat → Nat) (p3 : Nat → Nat) (p4 : Nat → Nat) (kp : Nat → Nat) (cv : Nat → Bool) (feM : Nat → Nat) (Pl : List Pc) (H : Heap) (locs : List Loc) (cells slots : Nat) (ls : Array Slot) (ix : Nat), L + 7 < ix + n → ix ≤ L + 7 → IF_ nf mg fF adF fd → IS bw fT ns adS sw sp sn lo hi sa sal → IG wf gs → IT nT fZ aL l0 b0 s0 l1 b1 s1 l2 b2 s2 l3 b3 s3 t t1 t2 t3 → IN rN lN bN sN → IP wd al ns np cn f0 f1 f2 f3 f4 p0 p1 p2 p3 p4 bd Pl → ID md wy sg_ → IM md al wd st nf mg fd fX fY np f2 f4 f5 sp tot ns pr lp Pl → cells + (b0 + b1 + b2 + b3 + bN) ≤ K0 + ix → slots + (s0 + s1 + s2 + s3 + sN) ≤ S0 + 10 * ix → va_P G vwCl (LW ty hU hF hB hT hG hC hQ hO hV hN aF aX aY aT aZ aE aG aQ aC aO aD aU aK hM aR aS aI aM st wd al sA nY nT rm ro rN nV nK_ fQ fO fU ov wy sg_ md bd nf mg fF adF fd fX fY bw fT ns adS sw sp sn pr sl sm sb lo hi sa sal tx0 tp0 tb0 fZ aL l0 b0 s0 l1 b1 s1 l2 b2 s2 l3 b3 s3 t t1 t2 t3 re tl wf gs np tot cn f0 f1 f2 f3 f4 f5 no to h0 h1 h2 h3 h4 h5 dn sv w0 w1 w2 kv aW lN bN sN fe cd ks prM lp vA cA wA vB cB vC cC reM rcM p0 p1 p2 p3 p4 kp cv feM Pl) H → va_D A (LW ty hU hF hB hT hG hC hQ hO hV hN aF aX aY aT aZ aE aG aQ aC aO aD aU aK hM aR aS aI aM st wd al sA nY nT rm ro rN nV nK_ fQ fO fU ov wy sg_ md bd nf mg fF adF fd fX fY bw fT ns adS sw sp sn pr sl sm sb lo hi sa sal tx0 tp0 tb0 fZ aL l0 b0 s0 l1 b1 s1 l2 b2 s2 l3 b3 s3 t t1 t2 t3 re tl wf gs np tot cn f0 f1 f2 f3 f4 f5 no to h0 h1 h2 h3 h4 h5 dn sv w0 w1 w2 kv aW lN bN sN fe cd ks prM lp vA cA wA vB cB vC cC reM rcM p0 p1 p2 p3 p4 kp cv feM Pl) → va_S A s.heap H locs → lv_has ls 8 [(0, .ref b), (1, .ref hF), (2, .ref hM), (3, .ref hU), (4, .int (nI ix))] → W p l e room_1 s m #[Value.ref b] below meth c H locs cells slots (lw_Z below #[Value.ref b] s) (F0 m 53 ls []) := by
  have X9 := X
  obtain ⟨hx, hb, hml, hown, hts, hlt, hX, hZ, hZA, hA, hsx, hbl, hbA, hL⟩ := X9
  intro n
  induction n with
  | zero => intro ov wy sg_ md bd nf mg fF adF fd fX fY bw fT ns adS sw sp sn pr sl sm sb lo hi sa sal tx0 tp0 tb0 fZ aL l0 b0 s0 l1 b1 s1 l2 b2 s2 l3 b3 s3 t t1 t2 t3 re tl wf gs np tot cn f0 f1 f2 f3 f4 f5 no to h0 h1 h2 h3 h4 h5 dn sv w0 w1 w2 kv aW lN bN sN fe cd ks prM lp vA cA wA vB cB vC cC reM rcM p0 p1 p2 p3 p4 kp cv feM Pl H locs cells slots ls ix hgt hle; exact absurd hgt (by omega)
  | succ n ih =>
    intro ov wy sg_ md bd nf mg fF adF fd fX fY bw fT ns adS sw sp sn pr sl sm sb lo hi sa sal tx0 tp0 tb0 fZ aL l0 b0 s0 l1 b1 s1 l2 b2 s2 l3 b3 s3 t t1 t2 t3 re tl wf gs np tot cn f0 f1 f2 f3 f4 f5 no to h0 h1 h2 h3 h4 h5 dn sv w0 w1 w2 kv aW lN bN sN fe cd ks prM lp vA cA wA vB cB vC cC reM rcM p0 p1 p2 p3 p4 kp cv feM Pl H locs cells slots ls ix hgt hle iF_ iS iG iT iN iP iD iM hbc hbs hP hD hS hl
    refine lv_iload hx hb d_Law_law_53 (lv_at hl 4 rfl) ?_
    refine lv_aload_n hx hb d_Law_law_55 rfl (lv_at hl 0 rfl) ?_
    refine va_slen hx hb hsx hbl hbA hS d_Law_law_56 ?_
    refine lv_bipush (v := (nI 7)) hx hb d_Law_law_57 (by decide) ?_
    refine nzz_isub hx hb d_Law_law_59 ?_
    refine nz_icmp_gt (tgt := 1353) hx hb (by omega) (by omega) d_Law_law_60 (by decide) (fun c60 => ?_) (fun c60 => ?_)
    · refine lv_iconst (v := 1) hx hb d_Law_law_1353 (by decide) ?_
      refine W.widen (k := 601024) (n := 7293000) (by omega) (by omega) ?_
      refine va_forget (fun q h => hAs _ (hS.2.2 q h)) ?_
      exact lw_ret hx hb hr hlk d_Law_law_1354
    · refine lv_aload_n hx hb d_Law_law_63 rfl (lv_at hl 0 rfl) ?_
      refine lv_iload hx hb d_Law_law_64 (lv_at hl 4 rfl) ?_
      refine va_sld hx hb hsx hbl hbA hS (nI_in (by omega) (by omega)) d_Law_law_66 ?_
      refine lv_bipush (v := (nI 31)) hx hb d_Law_law_67 (by decide) ?_
      refine lv_iand hx hb d_Law_law_69 ?_
      have hix : ix + 7 ≤ L := by omega
      have kk : LK p l e s m below meth c G ty A b ix (K0 + ix + 7) (S0 + 10 * ix + 70) hU hF hB hT hG hC hQ hO hV hN aF aX aY aT aZ aE aG aQ aC aO aD aU aK hM aR aS aI aM st wd al sA nY nT rm ro rN nV nK_ fQ fO fU := by
        unfold LK
        intro ov wy sg_ md bd nf mg fF adF fd fX fY bw fT ns adS sw sp sn pr sl sm sb lo hi sa sal tx0 tp0 tb0 fZ aL l0 b0 s0 l1 b1 s1 l2 b2 s2 l3 b3 s3 t t1 t2 t3 re tl wf gs np tot cn f0 f1 f2 f3 f4 f5 no to h0 h1 h2 h3 h4 h5 dn sv w0 w1 w2 kv aW lN bN sN fe cd ks prM lp vA cA wA vB cB vC cC reM rcM p0 p1 p2 p3 p4 kp cv feM Pl H locs cells slots ls iF_ iS iG iT iN iP iD iM hbc hbs hP hD hS hl
        refine lv_iinc (v := nI (ix + 7)) (lv' := [(4, .int (nI (ix + 7))), (0, .ref b), (1, .ref hF), (2, .ref hM), (3, .ref hU)]) hx hb d_Law_law_1347 hl (k := 4) rfl (nI_inc _ _ _ (by omega)) (by decide) rfl (fun ls hl => ?_)
        refine lv_goto (tgt := 53) hx hb d_Law_law_1350 (by decide) ?_
        exact ih ov wy sg_ md bd nf mg fF adF fd fX fY bw fT ns adS sw sp sn pr sl sm sb lo hi sa sal tx0 tp0 tb0 fZ aL l0 b0 s0 l1 b1 s1 l2 b2 s2 l3 b3 s3 t t1 t2 t3 re tl wf gs np tot cn f0 f1 f2 f3 f4 f5 no to h0 h1 h2 h3 h4 h5 dn sv w0 w1 w2 kv aW lN bN sN fe cd ks prM lp vA cA wA vB cB vC cC reM rcM p0 p1 p2 p3 p4 kp cv feM Pl H locs cells slots ls (ix + 7) (by omega) (by omega) iF_ iS iG iT iN iP iD iM (by omega) (by omega) hP hD hS (lv_sub hl [1, 2, 3, 4, 0] rfl)
      generalize (xs (nI ix).toNatClampNeg) &&& (nI 31) = y9
      by_cases e0 : y9.toInt = 0
      · exact lv_tableIn (tgt := 152) hx hb d_Law_law_70 (by omega) (by omega) (by rw [e0]; rfl) (by decide) (lc_fault X hix iB iF_ iS iG iT iN iP iD iM (by omega) (by omega) (by omega) (by omega) hP hD hS hl kk)
      by_cases e1 : y9.toInt = 1
      · exact lv_tableIn (tgt := 277) hx hb d_Law_law_70 (by omega) (by omega) (by rw [e1]; rfl) (by decide) (lc_piece X hix iB iF_ iS iG iT iN iP iD iM (by omega) (by omega) (by omega) (by omega) hP hD hS hl kk)
      by_cases e2 : y9.toInt = 2
      · exact lv_tableIn (tgt := 401) hx hb d_Law_law_70 (by omega) (by omega) (by rw [e2]; rfl) (by decide) (lc_allows X hix iB iF_ iS iG iT iN iP iD iM (by omega) (by omega) (by omega) (by omega) hP hD hS hl kk)
      by_cases e3 : y9.toInt = 3
      · exact lv_tableIn (tgt := 488) hx hb d_Law_law_70 (by omega) (by omega) (by rw [e3]; rfl) (by decide) (lc_gang X hix iB iF_ iS iG iT iN iP iD iM (by omega) (by omega) (by omega) (by omega) hP hD hS hl kk)
      by_cases e4 : y9.toInt = 4
      · exact lv_tableIn (tgt := 551) hx hb d_Law_law_70 (by omega) (by omega) (by rw [e4]; rfl) (by decide) (lc_need X hix iB iF_ iS iG iT iN iP iD iM (by omega) (by omega) (by omega) (by omega) hP hD hS hl kk)
      by_cases e5 : y9.toInt = 5
      · exact lv_tableIn (tgt := 626) hx hb d_Law_law_70 (by omega) (by omega) (by rw [e5]; rfl) (by decide) (lc_margin X hix iB iF_ iS iG iT iN iP iD iM (by omega) (by omega) (by omega) (by omega) hP hD hS hl kk)
      by_cases e6 : y9.toInt = 6
      · exact lv_tableIn (tgt := 689) hx hb d_Law_law_70 (by omega) (by omega) (by rw [e6]; rfl) (by decide) (lc_bow X hix iB iF_ iS iG iT iN iP iD iM (by omega) (by omega) (by omega) (by omega) hP hD hS hl kk)
      by_cases e7 : y9.toInt = 7
      · exact lv_tableIn (tgt := 752) hx hb d_Law_law_70 (by omega) (by omega) (by rw [e7]; rfl) (by decide) (lc_run X hix iB iF_ iS iG iT iN iP iD iM (by omega) (by omega) (by omega) (by omega) hP hD hS hl kk)
      by_cases e8 : y9.toInt = 8
      · exact lv_tableIn (tgt := 820) hx hb d_Law_law_70 (by omega) (by omega) (by rw [e8]; rfl) (by decide) (lc_prices X hix iB iF_ iS iG iT iN iP iD iM (by omega) (by omega) (by omega) (by omega) hP hD hS hl kk)
      by_cases e9 : y9.toInt = 9
      · exact lv_tableIn (tgt := 876) hx hb d_Law_law_70 (by omega) (by omega) (by rw [e9]; rfl) (by decide) (lc_worth X hix iB iF_ iS iG iT iN iP iD iM (by omega) (by omega) (by omega) (by omega) hP hD hS hl kk)
      by_cases e10 : y9.toInt = 10
      · exact lv_tableIn (tgt := 919) hx hb d_Law_law_70 (by omega) (by omega) (by rw [e10]; rfl) (by decide) (lc_at X hix iB iF_ iS iG iT iN iP iD iM (by omega) (by omega) (by omega) (by omega) hP hD hS hl kk)
      by_cases e11 : y9.toInt = 11
      · exact lv_tableIn (tgt := 987) hx hb d_Law_law_70 (by omega) (by omega) (by rw [e11]; rfl) (by decide) (lc_clear2 X hix iB iF_ iS iG iT iN iP iD iM (by omega) (by omega) (by omega) (by omega) hP hD hS hl kk)
      by_cases e12 : y9.toInt = 12
      · exact lv_tableIn (tgt := 1050) hx hb d_Law_law_70 (by omega) (by omega) (by rw [e12]; rfl) (by decide) (lc_bound X hix iB iF_ iS iG iT iN iP iD iM (by omega) (by omega) (by omega) (by omega) hP hD hS hl kk)
      by_cases e13 : y9.toInt = 13
      · exact lv_tableIn (tgt := 1093) hx hb d_Law_law_70 (by omega) (by omega) (by rw [e13]; rfl) (by decide) (lc_price X hix iB iF_ iS iG iT iN iP iD iM (by omega) (by omega) (by omega) (by omega) hP hD hS hl kk)
      by_cases e14 : y9.toInt = 14
      · exact lv_tableIn (tgt := 1160) hx hb d_Law_law_70 (by omega) (by omega) (by rw [e14]; rfl) (by decide) (lc_salvage X hix iB iF_ iS iG iT iN iP iD iM (by omega) (by omega) (by omega) (by omega) hP hD hS hl kk)
      by_cases e15 : y9.toInt = 15
      · exact lv_tableIn (tgt := 1228) hx hb d_Law_law_70 (by omega) (by omega) (by rw [e15]; rfl) (by decide) (lc_panel X hix iB iF_ iS iG iT iN iP iD iM (by omega) (by omega) (by omega) (by omega) hP hD hS hl kk)
      by_cases e16 : y9.toInt = 16
      · exact lv_tableIn (tgt := 1296) hx hb d_Law_law_70 (by omega) (by omega) (by rw [e16]; rfl) (by decide) (lc_greatest X hix iB iF_ iS iG iT iN iP iD iM (by omega) (by omega) (by omega) (by omega) hP hD hS hl kk)
      refine lv_tableOut (tgt := 1347) hx hb d_Law_law_70 (by omega) (by decide) ?_
      unfold LK at kk
      exact kk ov wy sg_ md bd nf mg fF adF fd fX fY bw fT ns adS sw sp sn pr sl sm sb lo hi sa sal tx0 tp0 tb0 fZ aL l0 b0 s0 l1 b1 s1 l2 b2 s2 l3 b3 s3 t t1 t2 t3 re tl wf gs np tot cn f0 f1 f2 f3 f4 f5 no to h0 h1 h2 h3 h4 h5 dn sv w0 w1 w2 kv aW lN bN sN fe cd ks prM lp vA cA wA vB cB vC cC reM rcM p0 p1 p2 p3 p4 kp cv feM Pl H locs cells slots ls iF_ iS iG iT iN iP iD iM (by omega) (by omega) hP hD hS hl
