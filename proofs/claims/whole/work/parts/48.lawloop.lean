theorem zarg (v : Int32) (m : Nat) (hm : m < 2 ^ 30) : (∃ x, x ≤ m ∧ v = nI x) ∨ (v < 0 ∨ nI m < v) := by
  rcases pk_ix v (n := m + 1) (by omega) with q | q | ⟨j, hj, e⟩
  · exact Or.inr (Or.inl q)
  · exact Or.inr (Or.inr (Int32.lt_of_lt_of_le (nI_lt (a := m) (b := m + 1) (by omega) (by omega)) q))
  · exact Or.inl ⟨j, by omega, e⟩
theorem zlen3 {i L : Nat} (hi : i ≤ 2000) (hL : L ≤ 1536) (h : ¬ Int32.ofNat L - nI 3 < nI i) : i + 3 ≤ L := by
  rcases Nat.lt_or_ge L (i + 3) with q | q
  · exact absurd (Int32.lt_iff_toInt_lt.mpr (by
      rw [show (Int32.ofNat L - nI 3).toInt = (L : Int) - (3 : Nat) from pk_sub_toInt (a := L) (b := 3) (by omega) (by omega), nI_toInt (by omega)]
      omega)) h
  · exact q
set_option maxHeartbeats 4000000 in
set_option maxRecDepth 100000 in
/-- THE LAW'S LOOP -/
theorem law_loop {pr : Program} {en : Env} {s0 : State} {mi : MethodId} {bl : List Frame} {me : Method} {co : Code} {A : Nat → Prop} (l : Launch) (D : va_G) (cI cC : ClassId) (adK adV : Nat → Nat) {b L : Nat} {xs : Nat → Int32} (hL : L ≤ 1536) (C0 : lw_At pr s0 mi me co b L xs) (hA : ∀ q, s0.heap.size ≤ q → A q) (hA2 : ∀ q, A q → s0.heap.size ≤ q) (hK : va_K D vwCl [(cI, .int), (cC, .char)] s0) (hE : zEs adK adV A s0 s0.heap) : ∀ (N i : Nat), i ≤ L → L - i < N → lw_K pr en s0 mi bl me co A l D cI cC b i := by
  obtain ⟨hx, hb, hr, hml, hown, hts, hX, hbl, hlocks, hgv⟩ := id C0
  have hbA : ¬ A b := fun q => Nat.not_le.mpr hbl (hA2 b q)
  intro N
  induction N with
  | zero =>
    intro i h1 h2
    omega
  | succ N ih =>
    intro i hiL hmea x0 G S rd td la sp ga ro od ra ta lf lt lpA lsA lmA lcA sf sx spA ssA smA scA m0 gA tA pA sA mA npA nsA nmA lA dA n w tw so dn am ag wr ma dr pq nc g f o r t0 p1 s1 m1 c1 p2 s2 m2 c2 r2 p3 s3 m3 p4 s4 m4 c3 c4 LL T hn hg hw hr3 hr2 hso hdn hLL hA1 hA3 hTT hG1 hG3 H locs hP hD hS ls hl
    refine lv_iload_n hx hb dL_law_18 rfl (lv_at hl 3 rfl) ?_
    refine lv_aload_n hx hb dL_law_19 rfl (lv_at hl 0 rfl) ?_
    refine va_slen hx hb hX hbl hbA hS dL_law_20 ?_
    refine lv_iconst (v := nI 3) hx hb dL_law_21 (by decide) ?_
    refine lv_isub hx hb dL_law_22 ?_
    refine lv_icmp_gt (tgt := 463) hx hb dL_law_23 (by decide) (fun c23 => ?_) (fun c23 => ?_)
    · refine lv_iconst (v := 1) hx hb dL_law_463 (by decide) ?_
      refine va_forget (fun q hq => hA2 _ (hS.2.2 q hq)) ?_
      refine W.widen (k := 600000) (n := 7302250) (Nat.le_of_ble_eq_true rfl) (Nat.le_of_ble_eq_true rfl) ?_
      exact lw_ret hx hb hr hlocks dL_law_464
    · have hi : i + 3 ≤ L := zlen3 (by omega) hL c23
      have kk := ih (i + 3) hi (by omega)
      refine lv_aload_n hx hb dL_law_26 rfl (lv_at hl 0 rfl) ?_
      refine lv_iload_n hx hb dL_law_27 rfl (lv_at hl 3 rfl) ?_
      refine va_sld hx hb hX hbl hbA hS (vp_in_nI (n := i) (by omega) (by omega)) dL_law_28 ?_
      refine lv_bipush (v := nI 31) hx hb dL_law_29 (by decide) ?_
      refine lv_iand hx hb dL_law_31 ?_
      obtain ⟨j, hj, ej⟩ := pk_andE (xs (nI i).toNatClampNeg) (m := nI 31) 5 (by decide)
      refine zz_top (y := nI j) ej ?_
      rcases (show j = 0 ∨ j = 1 ∨ j = 2 ∨ j = 3 ∨ j = 4 ∨ j = 5 ∨ j = 6 ∨ j = 7 ∨ j = 8 ∨ j = 9 ∨ j = 10 ∨ j = 11 ∨ j = 12 ∨ j = 13 ∨ j = 14 ∨ j = 15 ∨ j = 16 ∨ 17 ≤ j by omega) with rfl | rfl | rfl | rfl | rfl | rfl | rfl | rfl | rfl | rfl | rfl | rfl | rfl | rfl | rfl | rfl | rfl | h17
      · refine lv_tableIn (off := 84) (tgt := 116) hx hb dL_law_32 (by decide) (by decide) (by decide) (by decide) ?_
        rcases zarg (xs (i + 1)) 4 (by decide) with ⟨x, h1, h2⟩ | h1
        · by_cases q : n = 96
          · exact lc_base0 l D cI cC adK adV hL C0 hA hA2 hK hE i hi kk x0 G S rd td la sp ga ro od ra ta lf lt lpA lsA lmA lcA sf sx spA ssA smA scA m0 gA tA pA sA mA npA nsA nmA lA dA n w tw so dn am ag wr ma dr pq nc g f o r t0 p1 s1 m1 c1 p2 s2 m2 c2 r2 p3 s3 m3 p4 s4 m4 c3 c4 LL T hn hg hw hr3 hr2 hso hdn hLL hA1 hA3 hTT hG1 hG3 (Or.inr q) H locs hP hD hS ls hl
          · exact lc_base l D cI cC adK adV hL C0 hA hA2 hK hE i hi kk x0 G S rd td la sp ga ro od ra ta lf lt lpA lsA lmA lcA sf sx spA ssA smA scA m0 gA tA pA sA mA npA nsA nmA lA dA n w tw so dn am ag wr ma dr pq nc g f o r t0 p1 s1 m1 c1 p2 s2 m2 c2 r2 p3 s3 m3 p4 s4 m4 c3 c4 LL T hn hg hw hr3 hr2 hso hdn hLL hA1 hA3 hTT hG1 hG3 x h1 h2 (by omega) H locs hP hD hS ls hl
        · exact lc_base0 l D cI cC adK adV hL C0 hA hA2 hK hE i hi kk x0 G S rd td la sp ga ro od ra ta lf lt lpA lsA lmA lcA sf sx spA ssA smA scA m0 gA tA pA sA mA npA nsA nmA lA dA n w tw so dn am ag wr ma dr pq nc g f o r t0 p1 s1 m1 c1 p2 s2 m2 c2 r2 p3 s3 m3 p4 s4 m4 c3 c4 LL T hn hg hw hr3 hr2 hso hdn hLL hA1 hA3 hTT hG1 hG3 (Or.inl h1) H locs hP hD hS ls hl
      · refine lv_tableIn (off := 107) (tgt := 139) hx hb dL_law_32 (by decide) (by decide) (by decide) (by decide) ?_
        exact lc_clear l D cI cC adK adV hL C0 hA hA2 hK hE i hi kk x0 G S rd td la sp ga ro od ra ta lf lt lpA lsA lmA lcA sf sx spA ssA smA scA m0 gA tA pA sA mA npA nsA nmA lA dA n w tw so dn am ag wr ma dr pq nc g f o r t0 p1 s1 m1 c1 p2 s2 m2 c2 r2 p3 s3 m3 p4 s4 m4 c3 c4 LL T hn hg hw hr3 hr2 hso hdn hLL hA1 hA3 hTT hG1 hG3 H locs hP hD hS ls hl
      · refine lv_tableIn (off := 118) (tgt := 150) hx hb dL_law_32 (by decide) (by decide) (by decide) (by decide) ?_
        rcases zarg (xs (i + 1)) 3 (by decide) with ⟨x, h1, h2⟩ | h1
        · by_cases q : w = 24
          · exact lc_read0 l D cI cC adK adV hL C0 hA hA2 hK hE i hi kk x0 G S rd td la sp ga ro od ra ta lf lt lpA lsA lmA lcA sf sx spA ssA smA scA m0 gA tA pA sA mA npA nsA nmA lA dA n w tw so dn am ag wr ma dr pq nc g f o r t0 p1 s1 m1 c1 p2 s2 m2 c2 r2 p3 s3 m3 p4 s4 m4 c3 c4 LL T hn hg hw hr3 hr2 hso hdn hLL hA1 hA3 hTT hG1 hG3 (Or.inr q) H locs hP hD hS ls hl
          · exact lc_read l D cI cC adK adV hL C0 hA hA2 hK hE i hi kk x0 G S rd td la sp ga ro od ra ta lf lt lpA lsA lmA lcA sf sx spA ssA smA scA m0 gA tA pA sA mA npA nsA nmA lA dA n w tw so dn am ag wr ma dr pq nc g f o r t0 p1 s1 m1 c1 p2 s2 m2 c2 r2 p3 s3 m3 p4 s4 m4 c3 c4 LL T hn hg hw hr3 hr2 hso hdn hLL hA1 hA3 hTT hG1 hG3 x h1 h2 (by omega) H locs hP hD hS ls hl
        · exact lc_read0 l D cI cC adK adV hL C0 hA hA2 hK hE i hi kk x0 G S rd td la sp ga ro od ra ta lf lt lpA lsA lmA lcA sf sx spA ssA smA scA m0 gA tA pA sA mA npA nsA nmA lA dA n w tw so dn am ag wr ma dr pq nc g f o r t0 p1 s1 m1 c1 p2 s2 m2 c2 r2 p3 s3 m3 p4 s4 m4 c3 c4 LL T hn hg hw hr3 hr2 hso hdn hLL hA1 hA3 hTT hG1 hG3 (Or.inl h1) H locs hP hD hS ls hl
      · refine lv_tableIn (off := 141) (tgt := 173) hx hb dL_law_32 (by decide) (by decide) (by decide) (by decide) ?_
        exact lc_wipe l D cI cC adK adV hL C0 hA hA2 hK hE i hi kk x0 G S rd td la sp ga ro od ra ta lf lt lpA lsA lmA lcA sf sx spA ssA smA scA m0 gA tA pA sA mA npA nsA nmA lA dA n w tw so dn am ag wr ma dr pq nc g f o r t0 p1 s1 m1 c1 p2 s2 m2 c2 r2 p3 s3 m3 p4 s4 m4 c3 c4 LL T hn hg hw hr3 hr2 hso hdn hLL hA1 hA3 hTT hG1 hG3 H locs hP hD hS ls hl
      · refine lv_tableIn (off := 152) (tgt := 184) hx hb dL_law_32 (by decide) (by decide) (by decide) (by decide) ?_
        exact lc_turn l D cI cC adK adV hL C0 hA hA2 hK hE i hi kk x0 G S rd td la sp ga ro od ra ta lf lt lpA lsA lmA lcA sf sx spA ssA smA scA m0 gA tA pA sA mA npA nsA nmA lA dA n w tw so dn am ag wr ma dr pq nc g f o r t0 p1 s1 m1 c1 p2 s2 m2 c2 r2 p3 s3 m3 p4 s4 m4 c3 c4 LL T hn hg hw hr3 hr2 hso hdn hLL hA1 hA3 hTT hG1 hG3 H locs hP hD hS ls hl
      · refine lv_tableIn (off := 163) (tgt := 195) hx hb dL_law_32 (by decide) (by decide) (by decide) (by decide) ?_
        exact lc_length l D cI cC adK adV hL C0 hA hA2 hK hE i hi kk x0 G S rd td la sp ga ro od ra ta lf lt lpA lsA lmA lcA sf sx spA ssA smA scA m0 gA tA pA sA mA npA nsA nmA lA dA n w tw so dn am ag wr ma dr pq nc g f o r t0 p1 s1 m1 c1 p2 s2 m2 c2 r2 p3 s3 m3 p4 s4 m4 c3 c4 LL T hn hg hw hr3 hr2 hso hdn hLL hA1 hA3 hTT hG1 hG3 H locs hP hD hS ls hl
      · refine lv_tableIn (off := 202) (tgt := 234) hx hb dL_law_32 (by decide) (by decide) (by decide) (by decide) ?_
        exact lc_row l D cI cC adK adV hL C0 hA hA2 hK hE i hi kk x0 G S rd td la sp ga ro od ra ta lf lt lpA lsA lmA lcA sf sx spA ssA smA scA m0 gA tA pA sA mA npA nsA nmA lA dA n w tw so dn am ag wr ma dr pq nc g f o r t0 p1 s1 m1 c1 p2 s2 m2 c2 r2 p3 s3 m3 p4 s4 m4 c3 c4 LL T hn hg hw hr3 hr2 hso hdn hLL hA1 hA3 hTT hG1 hG3 H locs hP hD hS ls hl
      · refine lv_tableIn (off := 225) (tgt := 257) hx hb dL_law_32 (by decide) (by decide) (by decide) (by decide) ?_
        exact lc_last l D cI cC adK adV hL C0 hA hA2 hK hE i hi kk x0 G S rd td la sp ga ro od ra ta lf lt lpA lsA lmA lcA sf sx spA ssA smA scA m0 gA tA pA sA mA npA nsA nmA lA dA n w tw so dn am ag wr ma dr pq nc g f o r t0 p1 s1 m1 c1 p2 s2 m2 c2 r2 p3 s3 m3 p4 s4 m4 c3 c4 LL T hn hg hw hr3 hr2 hso hdn hLL hA1 hA3 hTT hG1 hG3 H locs hP hD hS ls hl
      · refine lv_tableIn (off := 248) (tgt := 280) hx hb dL_law_32 (by decide) (by decide) (by decide) (by decide) ?_
        rcases zarg (xs (i + 1)) 5 (by decide) with ⟨x, h1, h2⟩ | h1
        · rcases zarg (xs (i + 2)) (n + 1) (by omega) with ⟨y, h3, h4⟩ | h3
          · exact lc_rank l D cI cC adK adV hL C0 hA hA2 hK hE i hi kk x0 G S rd td la sp ga ro od ra ta lf lt lpA lsA lmA lcA sf sx spA ssA smA scA m0 gA tA pA sA mA npA nsA nmA lA dA n w tw so dn am ag wr ma dr pq nc g f o r t0 p1 s1 m1 c1 p2 s2 m2 c2 r2 p3 s3 m3 p4 s4 m4 c3 c4 LL T hn hg hw hr3 hr2 hso hdn hLL hA1 hA3 hTT hG1 hG3 x y h1 h3 h2 h4 H locs hP hD hS ls hl
          · exact lc_rank0 l D cI cC adK adV hL C0 hA hA2 hK hE i hi kk x0 G S rd td la sp ga ro od ra ta lf lt lpA lsA lmA lcA sf sx spA ssA smA scA m0 gA tA pA sA mA npA nsA nmA lA dA n w tw so dn am ag wr ma dr pq nc g f o r t0 p1 s1 m1 c1 p2 s2 m2 c2 r2 p3 s3 m3 p4 s4 m4 c3 c4 LL T hn hg hw hr3 hr2 hso hdn hLL hA1 hA3 hTT hG1 hG3 (Or.inr h3) H locs hP hD hS ls hl
        · exact lc_rank0 l D cI cC adK adV hL C0 hA hA2 hK hE i hi kk x0 G S rd td la sp ga ro od ra ta lf lt lpA lsA lmA lcA sf sx spA ssA smA scA m0 gA tA pA sA mA npA nsA nmA lA dA n w tw so dn am ag wr ma dr pq nc g f o r t0 p1 s1 m1 c1 p2 s2 m2 c2 r2 p3 s3 m3 p4 s4 m4 c3 c4 LL T hn hg hw hr3 hr2 hso hdn hLL hA1 hA3 hTT hG1 hG3 (Or.inl h1) H locs hP hD hS ls hl
      · refine lv_tableIn (off := 281) (tgt := 313) hx hb dL_law_32 (by decide) (by decide) (by decide) (by decide) ?_
        exact lc_first l D cI cC adK adV hL C0 hA hA2 hK hE i hi kk x0 G S rd td la sp ga ro od ra ta lf lt lpA lsA lmA lcA sf sx spA ssA smA scA m0 gA tA pA sA mA npA nsA nmA lA dA n w tw so dn am ag wr ma dr pq nc g f o r t0 p1 s1 m1 c1 p2 s2 m2 c2 r2 p3 s3 m3 p4 s4 m4 c3 c4 LL T hn hg hw hr3 hr2 hso hdn hLL hA1 hA3 hTT hG1 hG3 H locs hP hD hS ls hl
      · refine lv_tableIn (off := 294) (tgt := 326) hx hb dL_law_32 (by decide) (by decide) (by decide) (by decide) ?_
        exact lc_count l D cI cC adK adV hL C0 hA hA2 hK hE i hi kk x0 G S rd td la sp ga ro od ra ta lf lt lpA lsA lmA lcA sf sx spA ssA smA scA m0 gA tA pA sA mA npA nsA nmA lA dA n w tw so dn am ag wr ma dr pq nc g f o r t0 p1 s1 m1 c1 p2 s2 m2 c2 r2 p3 s3 m3 p4 s4 m4 c3 c4 LL T hn hg hw hr3 hr2 hso hdn hLL hA1 hA3 hTT hG1 hG3 H locs hP hD hS ls hl
      · refine lv_tableIn (off := 307) (tgt := 339) hx hb dL_law_32 (by decide) (by decide) (by decide) (by decide) ?_
        rcases zarg (xs (i + 1)) 4 (by decide) with ⟨x, h1, h2⟩ | h1
        · rcases Nat.eq_zero_or_pos w with q | q
          · exact lc_mapE l D cI cC adK adV hL C0 hA hA2 hK hE i hi kk x0 G S rd td la sp ga ro od ra ta lf lt lpA lsA lmA lcA sf sx spA ssA smA scA m0 gA tA pA sA mA npA nsA nmA lA dA n w tw so dn am ag wr ma dr pq nc g f o r t0 p1 s1 m1 c1 p2 s2 m2 c2 r2 p3 s3 m3 p4 s4 m4 c3 c4 LL T hn hg hw hr3 hr2 hso hdn hLL hA1 hA3 hTT hG1 hG3 x h1 h2 q H locs hP hD hS ls hl
          · rcases Nat.lt_or_ge 1500 (ztext n g r w (dn + 1) (zhits g r w x (zrm n w))).length with q2 | q2
            · exact lc_mapO l D cI cC adK adV hL C0 hA hA2 hK hE i hi kk x0 G S rd td la sp ga ro od ra ta lf lt lpA lsA lmA lcA sf sx spA ssA smA scA m0 gA tA pA sA mA npA nsA nmA lA dA n w tw so dn am ag wr ma dr pq nc g f o r t0 p1 s1 m1 c1 p2 s2 m2 c2 r2 p3 s3 m3 p4 s4 m4 c3 c4 LL T hn hg hw hr3 hr2 hso hdn hLL hA1 hA3 hTT hG1 hG3 x h1 h2 q q2 H locs hP hD hS ls hl
            · exact lc_map l D cI cC adK adV hL C0 hA hA2 hK hE i hi kk x0 G S rd td la sp ga ro od ra ta lf lt lpA lsA lmA lcA sf sx spA ssA smA scA m0 gA tA pA sA mA npA nsA nmA lA dA n w tw so dn am ag wr ma dr pq nc g f o r t0 p1 s1 m1 c1 p2 s2 m2 c2 r2 p3 s3 m3 p4 s4 m4 c3 c4 LL T hn hg hw hr3 hr2 hso hdn hLL hA1 hA3 hTT hG1 hG3 x h1 h2 q q2 H locs hP hD hS ls hl
        · exact lc_map0 l D cI cC adK adV hL C0 hA hA2 hK hE i hi kk x0 G S rd td la sp ga ro od ra ta lf lt lpA lsA lmA lcA sf sx spA ssA smA scA m0 gA tA pA sA mA npA nsA nmA lA dA n w tw so dn am ag wr ma dr pq nc g f o r t0 p1 s1 m1 c1 p2 s2 m2 c2 r2 p3 s3 m3 p4 s4 m4 c3 c4 LL T hn hg hw hr3 hr2 hso hdn hLL hA1 hA3 hTT hG1 hG3 h1 H locs hP hD hS ls hl
      · refine lv_tableIn (off := 330) (tgt := 362) hx hb dL_law_32 (by decide) (by decide) (by decide) (by decide) ?_
        exact lc_hits l D cI cC adK adV hL C0 hA hA2 hK hE i hi kk x0 G S rd td la sp ga ro od ra ta lf lt lpA lsA lmA lcA sf sx spA ssA smA scA m0 gA tA pA sA mA npA nsA nmA lA dA n w tw so dn am ag wr ma dr pq nc g f o r t0 p1 s1 m1 c1 p2 s2 m2 c2 r2 p3 s3 m3 p4 s4 m4 c3 c4 LL T hn hg hw hr3 hr2 hso hdn hLL hA1 hA3 hTT hG1 hG3 H locs hP hD hS ls hl
      · refine lv_tableIn (off := 343) (tgt := 375) hx hb dL_law_32 (by decide) (by decide) (by decide) (by decide) ?_
        rcases pk_ix (xs (i + 1)) (n := LL.length) (by omega) with h1 | h1 | ⟨x, h1, h2⟩
        · exact lc_hit0 l D cI cC adK adV hL C0 hA hA2 hK hE i hi kk x0 G S rd td la sp ga ro od ra ta lf lt lpA lsA lmA lcA sf sx spA ssA smA scA m0 gA tA pA sA mA npA nsA nmA lA dA n w tw so dn am ag wr ma dr pq nc g f o r t0 p1 s1 m1 c1 p2 s2 m2 c2 r2 p3 s3 m3 p4 s4 m4 c3 c4 LL T hn hg hw hr3 hr2 hso hdn hLL hA1 hA3 hTT hG1 hG3 (Or.inl (Or.inl h1)) H locs hP hD hS ls hl
        · exact lc_hit0 l D cI cC adK adV hL C0 hA hA2 hK hE i hi kk x0 G S rd td la sp ga ro od ra ta lf lt lpA lsA lmA lcA sf sx spA ssA smA scA m0 gA tA pA sA mA npA nsA nmA lA dA n w tw so dn am ag wr ma dr pq nc g f o r t0 p1 s1 m1 c1 p2 s2 m2 c2 r2 p3 s3 m3 p4 s4 m4 c3 c4 LL T hn hg hw hr3 hr2 hso hdn hLL hA1 hA3 hTT hG1 hG3 (Or.inl (Or.inr h1)) H locs hP hD hS ls hl
        · rcases zarg (xs (i + 2)) 3 (by decide) with ⟨y, h3, h4⟩ | h3
          · exact lc_hit l D cI cC adK adV hL C0 hA hA2 hK hE i hi kk x0 G S rd td la sp ga ro od ra ta lf lt lpA lsA lmA lcA sf sx spA ssA smA scA m0 gA tA pA sA mA npA nsA nmA lA dA n w tw so dn am ag wr ma dr pq nc g f o r t0 p1 s1 m1 c1 p2 s2 m2 c2 r2 p3 s3 m3 p4 s4 m4 c3 c4 LL T hn hg hw hr3 hr2 hso hdn hLL hA1 hA3 hTT hG1 hG3 x y h1 h3 h2 h4 H locs hP hD hS ls hl
          · exact lc_hit0 l D cI cC adK adV hL C0 hA hA2 hK hE i hi kk x0 G S rd td la sp ga ro od ra ta lf lt lpA lsA lmA lcA sf sx spA ssA smA scA m0 gA tA pA sA mA npA nsA nmA lA dA n w tw so dn am ag wr ma dr pq nc g f o r t0 p1 s1 m1 c1 p2 s2 m2 c2 r2 p3 s3 m3 p4 s4 m4 c3 c4 LL T hn hg hw hr3 hr2 hso hdn hLL hA1 hA3 hTT hG1 hG3 (Or.inr h3) H locs hP hD hS ls hl
      · refine lv_tableIn (off := 376) (tgt := 408) hx hb dL_law_32 (by decide) (by decide) (by decide) (by decide) ?_
        exact lc_size l D cI cC adK adV hL C0 hA hA2 hK hE i hi kk x0 G S rd td la sp ga ro od ra ta lf lt lpA lsA lmA lcA sf sx spA ssA smA scA m0 gA tA pA sA mA npA nsA nmA lA dA n w tw so dn am ag wr ma dr pq nc g f o r t0 p1 s1 m1 c1 p2 s2 m2 c2 r2 p3 s3 m3 p4 s4 m4 c3 c4 LL T hn hg hw hr3 hr2 hso hdn hLL hA1 hA3 hTT hG1 hG3 H locs hP hD hS ls hl
      · refine lv_tableIn (off := 389) (tgt := 421) hx hb dL_law_32 (by decide) (by decide) (by decide) (by decide) ?_
        rcases pk_ix (xs (i + 1)) (n := T.length) (by omega) with h1 | h1 | ⟨x, h1, h2⟩
        · exact lc_at0 l D cI cC adK adV hL C0 hA hA2 hK hE i hi kk x0 G S rd td la sp ga ro od ra ta lf lt lpA lsA lmA lcA sf sx spA ssA smA scA m0 gA tA pA sA mA npA nsA nmA lA dA n w tw so dn am ag wr ma dr pq nc g f o r t0 p1 s1 m1 c1 p2 s2 m2 c2 r2 p3 s3 m3 p4 s4 m4 c3 c4 LL T hn hg hw hr3 hr2 hso hdn hLL hA1 hA3 hTT hG1 hG3 (Or.inl h1) H locs hP hD hS ls hl
        · exact lc_at0 l D cI cC adK adV hL C0 hA hA2 hK hE i hi kk x0 G S rd td la sp ga ro od ra ta lf lt lpA lsA lmA lcA sf sx spA ssA smA scA m0 gA tA pA sA mA npA nsA nmA lA dA n w tw so dn am ag wr ma dr pq nc g f o r t0 p1 s1 m1 c1 p2 s2 m2 c2 r2 p3 s3 m3 p4 s4 m4 c3 c4 LL T hn hg hw hr3 hr2 hso hdn hLL hA1 hA3 hTT hG1 hG3 (Or.inr h1) H locs hP hD hS ls hl
        · exact lc_at l D cI cC adK adV hL C0 hA hA2 hK hE i hi kk x0 G S rd td la sp ga ro od ra ta lf lt lpA lsA lmA lcA sf sx spA ssA smA scA m0 gA tA pA sA mA npA nsA nmA lA dA n w tw so dn am ag wr ma dr pq nc g f o r t0 p1 s1 m1 c1 p2 s2 m2 c2 r2 p3 s3 m3 p4 s4 m4 c3 c4 LL T hn hg hw hr3 hr2 hso hdn hLL hA1 hA3 hTT hG1 hG3 x h1 h2 H locs hP hD hS ls hl
      · refine lv_tableIn (off := 412) (tgt := 444) hx hb dL_law_32 (by decide) (by decide) (by decide) (by decide) ?_
        exact lc_mappings l D cI cC adK adV hL C0 hA hA2 hK hE i hi kk x0 G S rd td la sp ga ro od ra ta lf lt lpA lsA lmA lcA sf sx spA ssA smA scA m0 gA tA pA sA mA npA nsA nmA lA dA n w tw so dn am ag wr ma dr pq nc g f o r t0 p1 s1 m1 c1 p2 s2 m2 c2 r2 p3 s3 m3 p4 s4 m4 c3 c4 LL T hn hg hw hr3 hr2 hso hdn hLL hA1 hA3 hTT hG1 hG3 H locs hP hD hS ls hl
      · refine lv_tableOut (tgt := 457) hx hb dL_law_32 (by rw [nI_toInt (by omega)]; omega) (by decide) ?_
        refine lv_iinc (v := nI (i + 3)) (lv' := [(3, .int (nI (i + 3))), (0, .ref b), (1, .ref x0), (2, .ref m0)]) hx hb dL_law_457 hl (k := 3) rfl (zincE3 rfl) (by decide) rfl (fun ls hl => ?_)
        refine lv_goto (tgt := 18) hx hb dL_law_460 (by decide) ?_
        exact kk x0 G S rd td la sp ga ro od ra ta lf lt lpA lsA lmA lcA sf sx spA ssA smA scA m0 gA tA pA sA mA npA nsA nmA lA dA n w tw so dn am ag wr ma dr pq nc g f o r t0 p1 s1 m1 c1 p2 s2 m2 c2 r2 p3 s3 m3 p4 s4 m4 c3 c4 LL T hn hg hw hr3 hr2 hso (by omega) hLL hA1 hA3 hTT hG1 hG3 _ _ hP hD hS ls (lv_sub hl [1, 2, 3, 0] rfl)
