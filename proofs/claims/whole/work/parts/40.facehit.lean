set_option maxHeartbeats 4000000 in
set_option maxRecDepth 100000 in
theorem f_hit (l : Launch) (D : va_G) (cI cC : ClassId)  (x0 G S rd td la sp dn : Nat) (fd tx pA sA mA am ag : Nat) (pq : Int32) (i t : Nat) (pl sl ml : Nat → Nat) (hfo : am ≤ 192) (hi : i < am) (ht : t ≤ 3) (sz : Nat) : Met l yX5_hit wsX5_hit ({ frames := 0, cells := 0, slots := 0, locals := 0 } : Room) (zPre zEn D vwCl [(cI, .int), (cC, .char)] [.ref x0, .int (nI i), .int (nI t)] [(x0, .inr (5, [.ref G, .ref S, .ref rd, .ref td, .ref la, .ref sp, .int (nI dn)])), (la, .inr (3, [.ref fd, .ref tx])), (fd, .inr (1, [.ref pA, .ref sA, .ref mA, .int (nI am), .int pq, .int (nI ag)])), (pA, .inl (cI, 192, .inl (fun jj => nI (pl jj)))), (sA, .inl (cI, 192, .inl (fun jj => nI (sl jj)))), (mA, .inl (cI, 192, .inl (fun jj => nI (ml jj))))] sz) (va_Qi (fun (rv : Int32) (uu : Unit) => rv = zhit pl sl ml pq i t ∧ True) (fun (uu : Unit) t9 => va_P D vwCl ([(x0, .inr (5, [.ref G, .ref S, .ref rd, .ref td, .ref la, .ref sp, .int (nI dn)])), (la, .inr (3, [.ref fd, .ref tx])), (fd, .inr (1, [.ref pA, .ref sA, .ref mA, .int (nI am), .int pq, .int (nI ag)])), (pA, .inl (cI, 192, .inl (fun jj => nI (pl jj)))), (sA, .inl (cI, 192, .inl (fun jj => nI (sl jj)))), (mA, .inl (cI, 192, .inl (fun jj => nI (ml jj))))]) t9.heap) (va_A [(x0, .inr (5, [.ref G, .ref S, .ref rd, .ref td, .ref la, .ref sp, .int (nI dn)])), (la, .inr (3, [.ref fd, .ref tx])), (fd, .inr (1, [.ref pA, .ref sA, .ref mA, .int (nI am), .int pq, .int (nI ag)])), (pA, .inl (cI, 192, .inl (fun jj => nI (pl jj)))), (sA, .inl (cI, 192, .inl (fun jj => nI (sl jj)))), (mA, .inl (cI, 192, .inl (fun jj => nI (ml jj))))] sz)) 0 0 (va_A [(x0, .inr (5, [.ref G, .ref S, .ref rd, .ref td, .ref la, .ref sp, .int (nI dn)])), (la, .inr (3, [.ref fd, .ref tx])), (fd, .inr (1, [.ref pA, .ref sA, .ref mA, .int (nI am), .int pq, .int (nI ag)])), (pA, .inl (cI, 192, .inl (fun jj => nI (pl jj)))), (sA, .inl (cI, 192, .inl (fun jj => nI (sl jj)))), (mA, .inl (cI, 192, .inl (fun jj => nI (ml jj))))] sz) := by
  refine zMet (cc := cX5_hit) (maxL := 4) (ret := (some .int)) (Qc := fun A => (va_Qi (fun (rv : Int32) (uu : Unit) => rv = zhit pl sl ml pq i t ∧ True) (fun (uu : Unit) t9 => va_P D vwCl ([(x0, .inr (5, [.ref G, .ref S, .ref rd, .ref td, .ref la, .ref sp, .int (nI dn)])), (la, .inr (3, [.ref fd, .ref tx])), (fd, .inr (1, [.ref pA, .ref sA, .ref mA, .int (nI am), .int pq, .int (nI ag)])), (pA, .inl (cI, 192, .inl (fun jj => nI (pl jj)))), (sA, .inl (cI, 192, .inl (fun jj => nI (sl jj)))), (mA, .inl (cI, 192, .inl (fun jj => nI (ml jj))))]) t9.heap) A)) (by decide) rfl (Nat.le_of_ble_eq_true rfl) ?_
  intro pr en s0 mi bl me co A hC hA hK hE H locs hP hD hS ls hl
  obtain ⟨hx, hb, hr, hml, hown, hts, hlocks, hin⟩ := id hC
  have hl : lv_has ls 4 [(0, .ref x0), (1, .int (nI i)), (2, .int (nI t))] := hl
  refine lv_aload_n hx hb dX5_hit_0 rfl (lv_at hl 0 rfl) ?_
  refine va_get (D := D) (ci := 5) (v := .ref la) (C := RX5) (T := TX5) (N := 7) hx hb hts (fun w h => List.mem_cons_of_mem _ (inUX5 w h)) hown hK hP 0 rfl rfl 4 (by decide) (hts _ (List.mem_cons_of_mem _ mw_158)) (fun _ h9 => h9) rfl dX5_hit_1 ?_
  refine va_getN (D := D) (ci := 3) (v := .ref fd) (C := RX3) (T := TX3) (N := 2) hx hb hts (fun w h => List.mem_cons_of_mem _ (inUX3 w h)) hown hK hP 1 rfl rfl 0 (by decide) (va_Nw.use rfl (hE.1 ("StrandMapper", 101, "StrandMapper$Mapping", "found", "LStrandMapper$HitList;", "StrandMapper") (by decide +kernel))) (fun _ h9 => h9) rfl dX5_hit_4 ?_
  refine lv_astore_n (lv' := [(3, .ref fd), (0, .ref x0), (1, .int (nI i)), (2, .int (nI t))]) hx hb dX5_hit_7 rfl hl (by decide) rfl (fun ls hl => ?_)
  refine lv_iload_n hx hb dX5_hit_8 rfl (lv_at hl 2 rfl) ?_
  refine zz_lt0 (tgt := 20) hx hb dX5_hit_9 (by decide) (by omega) ?_
  refine lv_iload_n hx hb dX5_hit_12 rfl (lv_at hl 2 rfl) ?_
  refine lv_aload_n hx hb dX5_hit_13 rfl (lv_at hl 0 rfl) ?_
  refine va_getN (D := D) (ci := 1) (v := .int (nI am)) (C := RX1) (T := TX1) (N := 6) hx hb hts (fun w h => List.mem_cons_of_mem _ (inUX1 w h)) hown hK hP 2 rfl rfl 3 (by decide) (va_Nw.use rfl (hE.1 ("StrandMapper", 105, "StrandMapper$HitList", "amount", "I", "StrandMapper") (by decide +kernel))) (fun _ h9 => h9) rfl dX5_hit_14 ?_
  refine zz_lt (tgt := 23) hx hb dX5_hit_17 (by decide) (by omega) (by omega) (fun c17 => ?_) (fun c17 => ?_)
  · skip
    refine lv_iload_n hx hb dX5_hit_23 rfl (lv_at hl 3 rfl) ?_
    rcases (show t = 0 ∨ t = 1 ∨ t = 2 ∨ t = 3 by omega) with rfl | rfl | rfl | rfl
    · skip
      refine lv_tableIn (off := 32) (tgt := 56) hx hb dX5_hit_24 (by decide) (by decide) (by decide) (by decide) ?_
      refine lv_aload_n hx hb dX5_hit_56 rfl (lv_at hl 0 rfl) ?_
      refine va_getN (D := D) (ci := 1) (v := .ref pA) (C := RX1) (T := TX1) (N := 6) hx hb hts (fun w h => List.mem_cons_of_mem _ (inUX1 w h)) hown hK hP 2 rfl rfl 0 (by decide) (va_Nw.use rfl (hE.1 ("StrandMapper", 110, "StrandMapper$HitList", "places", "[I", "StrandMapper") (by decide +kernel))) (fun _ h9 => h9) rfl dX5_hit_57 ?_
      refine lv_iload_n hx hb dX5_hit_60 rfl (lv_at hl 2 rfl) ?_
      refine zz_iald (k := i) (f := pl) hx hb hK hP 3 0 rfl rfl (by omega) (by omega) dX5_hit_61 ?_
      exact zIret hC hS () ⟨rfl, trivial⟩ hP (vp_nar_int _) dX5_hit_62
    · skip
      refine lv_tableIn (off := 39) (tgt := 63) hx hb dX5_hit_24 (by decide) (by decide) (by decide) (by decide) ?_
      refine lv_aload_n hx hb dX5_hit_63 rfl (lv_at hl 0 rfl) ?_
      refine va_getN (D := D) (ci := 1) (v := .ref sA) (C := RX1) (T := TX1) (N := 6) hx hb hts (fun w h => List.mem_cons_of_mem _ (inUX1 w h)) hown hK hP 2 rfl rfl 1 (by decide) (va_Nw.use rfl (hE.1 ("StrandMapper", 114, "StrandMapper$HitList", "strands", "[I", "StrandMapper") (by decide +kernel))) (fun _ h9 => h9) rfl dX5_hit_64 ?_
      refine lv_iload_n hx hb dX5_hit_67 rfl (lv_at hl 2 rfl) ?_
      refine zz_iald (k := i) (f := sl) hx hb hK hP 4 0 rfl rfl (by omega) (by omega) dX5_hit_68 ?_
      exact zIret hC hS () ⟨rfl, trivial⟩ hP (vp_nar_int _) dX5_hit_69
    · skip
      refine lv_tableIn (off := 46) (tgt := 70) hx hb dX5_hit_24 (by decide) (by decide) (by decide) (by decide) ?_
      refine lv_aload_n hx hb dX5_hit_70 rfl (lv_at hl 0 rfl) ?_
      refine va_getN (D := D) (ci := 1) (v := .ref mA) (C := RX1) (T := TX1) (N := 6) hx hb hts (fun w h => List.mem_cons_of_mem _ (inUX1 w h)) hown hK hP 2 rfl rfl 2 (by decide) (va_Nw.use rfl (hE.1 ("StrandMapper", 117, "StrandMapper$HitList", "mismatches", "[I", "StrandMapper") (by decide +kernel))) (fun _ h9 => h9) rfl dX5_hit_71 ?_
      refine lv_iload_n hx hb dX5_hit_74 rfl (lv_at hl 2 rfl) ?_
      refine zz_iald (k := i) (f := ml) hx hb hK hP 5 0 rfl rfl (by omega) (by omega) dX5_hit_75 ?_
      exact zIret hC hS () ⟨rfl, trivial⟩ hP (vp_nar_int _) dX5_hit_76
    · skip
      refine lv_tableIn (off := 53) (tgt := 77) hx hb dX5_hit_24 (by decide) (by decide) (by decide) (by decide) ?_
      refine lv_iload_n hx hb dX5_hit_77 rfl (lv_at hl 2 rfl) ?_
      refine lv_aload_n hx hb dX5_hit_78 rfl (lv_at hl 0 rfl) ?_
      refine va_getN (D := D) (ci := 1) (v := .int pq) (C := RX1) (T := TX1) (N := 6) hx hb hts (fun w h => List.mem_cons_of_mem _ (inUX1 w h)) hown hK hP 2 rfl rfl 4 (by decide) (va_Nw.use rfl (hE.1 ("StrandMapper", 120, "StrandMapper$HitList", "primary", "I", "StrandMapper") (by decide +kernel))) (fun _ h9 => h9) rfl dX5_hit_79 ?_
      refine lv_icmp_ne (tgt := 89) hx hb dX5_hit_82 (by decide) (fun c82 => ?_) (fun c82 => ?_)
      · skip
        refine lv_iconst (v := nI 0) hx hb dX5_hit_89 (by decide) ?_
        exact zIret hC hS () ⟨by unfold zhit; rw [if_neg (by decide), if_neg (by decide), if_neg (by decide)]; first | rw [if_pos c82] | rw [if_neg c82], trivial⟩ hP (vp_nar_int _) dX5_hit_90
      · skip
        refine lv_iconst (v := nI 1) hx hb dX5_hit_85 (by decide) ?_
        refine lv_goto (tgt := 90) hx hb dX5_hit_86 (by decide) ?_
        exact zIret hC hS () ⟨by unfold zhit; rw [if_neg (by decide), if_neg (by decide), if_neg (by decide)]; first | rw [if_pos c82] | rw [if_neg c82], trivial⟩ hP (vp_nar_int _) dX5_hit_90
  · skip
    exact absurd c17 (by omega)
set_option maxHeartbeats 4000000 in
set_option maxRecDepth 100000 in
theorem f_hit0 (l : Launch) (D : va_G) (cI cC : ClassId)  (x0 G S rd td la sp dn : Nat) (fd tx pA sA mA am ag : Nat) (pq : Int32) (i t : Int32) (hfo : am ≤ 192) (hbad : (i < 0 ∨ nI am ≤ i) ∨ (t < 0 ∨ nI 3 < t)) (sz : Nat) : Met l yX5_hit wsX5_hit ({ frames := 0, cells := 0, slots := 0, locals := 0 } : Room) (zPre zEn D vwCl [(cI, .int), (cC, .char)] [.ref x0, .int i, .int t] [(x0, .inr (5, [.ref G, .ref S, .ref rd, .ref td, .ref la, .ref sp, .int (nI dn)])), (la, .inr (3, [.ref fd, .ref tx])), (fd, .inr (1, [.ref pA, .ref sA, .ref mA, .int (nI am), .int pq, .int (nI ag)]))] sz) (va_Qi (fun (rv : Int32) (uu : Unit) => rv = (-2) ∧ True) (fun (uu : Unit) t9 => va_P D vwCl ([(x0, .inr (5, [.ref G, .ref S, .ref rd, .ref td, .ref la, .ref sp, .int (nI dn)])), (la, .inr (3, [.ref fd, .ref tx])), (fd, .inr (1, [.ref pA, .ref sA, .ref mA, .int (nI am), .int pq, .int (nI ag)]))]) t9.heap) (va_A [(x0, .inr (5, [.ref G, .ref S, .ref rd, .ref td, .ref la, .ref sp, .int (nI dn)])), (la, .inr (3, [.ref fd, .ref tx])), (fd, .inr (1, [.ref pA, .ref sA, .ref mA, .int (nI am), .int pq, .int (nI ag)]))] sz)) 0 0 (va_A [(x0, .inr (5, [.ref G, .ref S, .ref rd, .ref td, .ref la, .ref sp, .int (nI dn)])), (la, .inr (3, [.ref fd, .ref tx])), (fd, .inr (1, [.ref pA, .ref sA, .ref mA, .int (nI am), .int pq, .int (nI ag)]))] sz) := by
  refine zMet (cc := cX5_hit) (maxL := 4) (ret := (some .int)) (Qc := fun A => (va_Qi (fun (rv : Int32) (uu : Unit) => rv = (-2) ∧ True) (fun (uu : Unit) t9 => va_P D vwCl ([(x0, .inr (5, [.ref G, .ref S, .ref rd, .ref td, .ref la, .ref sp, .int (nI dn)])), (la, .inr (3, [.ref fd, .ref tx])), (fd, .inr (1, [.ref pA, .ref sA, .ref mA, .int (nI am), .int pq, .int (nI ag)]))]) t9.heap) A)) (by decide) rfl (Nat.le_of_ble_eq_true rfl) ?_
  intro pr en s0 mi bl me co A hC hA hK hE H locs hP hD hS ls hl
  obtain ⟨hx, hb, hr, hml, hown, hts, hlocks, hin⟩ := id hC
  have hl : lv_has ls 4 [(0, .ref x0), (1, .int i), (2, .int t)] := hl
  refine lv_aload_n hx hb dX5_hit_0 rfl (lv_at hl 0 rfl) ?_
  refine va_get (D := D) (ci := 5) (v := .ref la) (C := RX5) (T := TX5) (N := 7) hx hb hts (fun w h => List.mem_cons_of_mem _ (inUX5 w h)) hown hK hP 0 rfl rfl 4 (by decide) (hts _ (List.mem_cons_of_mem _ mw_158)) (fun _ h9 => h9) rfl dX5_hit_1 ?_
  refine va_getN (D := D) (ci := 3) (v := .ref fd) (C := RX3) (T := TX3) (N := 2) hx hb hts (fun w h => List.mem_cons_of_mem _ (inUX3 w h)) hown hK hP 1 rfl rfl 0 (by decide) (va_Nw.use rfl (hE.1 ("StrandMapper", 101, "StrandMapper$Mapping", "found", "LStrandMapper$HitList;", "StrandMapper") (by decide +kernel))) (fun _ h9 => h9) rfl dX5_hit_4 ?_
  refine lv_astore_n (lv' := [(3, .ref fd), (0, .ref x0), (1, .int i), (2, .int t)]) hx hb dX5_hit_7 rfl hl (by decide) rfl (fun ls hl => ?_)
  refine lv_iload_n hx hb dX5_hit_8 rfl (lv_at hl 2 rfl) ?_
  refine lv_if_lt (tgt := 20) hx hb dX5_hit_9 (by decide) (fun c9 => ?_) (fun c9 => ?_)
  · skip
    refine lv_bipush (v := (-2)) hx hb dX5_hit_20 (by decide) ?_
    exact zIret hC hS () ⟨rfl, trivial⟩ hP (vp_nar_int _) dX5_hit_22
  · skip
    refine lv_iload_n hx hb dX5_hit_12 rfl (lv_at hl 2 rfl) ?_
    refine lv_aload_n hx hb dX5_hit_13 rfl (lv_at hl 0 rfl) ?_
    refine va_getN (D := D) (ci := 1) (v := .int (nI am)) (C := RX1) (T := TX1) (N := 6) hx hb hts (fun w h => List.mem_cons_of_mem _ (inUX1 w h)) hown hK hP 2 rfl rfl 3 (by decide) (va_Nw.use rfl (hE.1 ("StrandMapper", 105, "StrandMapper$HitList", "amount", "I", "StrandMapper") (by decide +kernel))) (fun _ h9 => h9) rfl dX5_hit_14 ?_
    refine lv_icmp_lt (tgt := 23) hx hb dX5_hit_17 (by decide) (fun c17 => ?_) (fun c17 => ?_)
    · skip
      refine lv_iload_n hx hb dX5_hit_23 rfl (lv_at hl 3 rfl) ?_
      have hT9 : t.toInt < 0 ∨ 3 < t.toInt := by
        rcases hbad with (q | q) | (q | q)
        · exact absurd q c9
        · exact absurd c17 (Int32.not_lt.mpr q)
        · exact Or.inl (Int32.lt_iff_toInt_lt.mp q)
        · exact Or.inr (Int32.lt_iff_toInt_lt.mp q)
      refine lv_tableOut (tgt := 91) hx hb dX5_hit_24 hT9 (by decide) ?_
      refine lv_bipush (v := (-2)) hx hb dX5_hit_91 (by decide) ?_
      exact zIret hC hS () ⟨rfl, trivial⟩ hP (vp_nar_int _) dX5_hit_93
    · skip
      refine lv_bipush (v := (-2)) hx hb dX5_hit_20 (by decide) ?_
      exact zIret hC hS () ⟨rfl, trivial⟩ hP (vp_nar_int _) dX5_hit_22
set_option maxHeartbeats 4000000 in
set_option maxRecDepth 100000 in
theorem f_map0 (l : Launch) (D : va_G) (cI cC : ClassId) (adK adV : Nat → Nat) (x0 G S rd td la sp dn : Nat) (b : Int32) (hbad : b < 0 ∨ nI 4 < b) (sz : Nat) : Met l yX5_map wsX5_map ({ frames := 0, cells := 0, slots := 0, locals := 0 } : Room) (zPre (zEs adK adV) D vwCl [(cI, .int), (cC, .char)] [.ref x0, .int b] [(x0, .inr (5, [.ref G, .ref S, .ref rd, .ref td, .ref la, .ref sp, .int (nI dn)]))] sz) (va_Qi (fun (rv : Int32) (uu : Unit) => rv = (-2) ∧ True) (fun (uu : Unit) t9 => va_P D vwCl ([(x0, .inr (5, [.ref G, .ref S, .ref rd, .ref td, .ref la, .ref sp, .int (nI dn)]))]) t9.heap) (va_A [(x0, .inr (5, [.ref G, .ref S, .ref rd, .ref td, .ref la, .ref sp, .int (nI dn)]))] sz)) 0 0 (va_A [(x0, .inr (5, [.ref G, .ref S, .ref rd, .ref td, .ref la, .ref sp, .int (nI dn)]))] sz) := by
  refine zMet (cc := cX5_map) (maxL := 3) (ret := (some .int)) (Qc := fun A => (va_Qi (fun (rv : Int32) (uu : Unit) => rv = (-2) ∧ True) (fun (uu : Unit) t9 => va_P D vwCl ([(x0, .inr (5, [.ref G, .ref S, .ref rd, .ref td, .ref la, .ref sp, .int (nI dn)]))]) t9.heap) A)) (by decide) rfl (Nat.le_of_ble_eq_true rfl) ?_
  intro pr en s0 mi bl me co A hC hA hK hE H locs hP hD hS ls hl
  obtain ⟨hx, hb, hr, hml, hown, hts, hlocks, hin⟩ := id hC
  have hl : lv_has ls 3 [(0, .ref x0), (1, .int b)] := hl
  refine lv_iload_n hx hb dX5_map_0 rfl (lv_at hl 1 rfl) ?_
  refine lv_if_lt (tgt := 9) hx hb dX5_map_1 (by decide) (fun c1 => ?_) (fun c1 => ?_)
  · skip
    refine lv_bipush (v := (-2)) hx hb dX5_map_9 (by decide) ?_
    exact zIret hC hS () ⟨rfl, trivial⟩ hP (vp_nar_int _) dX5_map_11
  · skip
    refine lv_iload_n hx hb dX5_map_4 rfl (lv_at hl 1 rfl) ?_
    refine lv_iconst (v := nI 4) hx hb dX5_map_5 (by decide) ?_
    refine lv_icmp_le (tgt := 12) hx hb dX5_map_6 (by decide) (fun c6 => ?_) (fun c6 => ?_)
    · skip
      exact absurd hbad (fun q => by rcases q with q | q; exact c1 q; exact absurd q (Int32.not_lt.mpr c6))
    · skip
      refine lv_bipush (v := (-2)) hx hb dX5_map_9 (by decide) ?_
      exact zIret hC hS () ⟨rfl, trivial⟩ hP (vp_nar_int _) dX5_map_11
set_option maxHeartbeats 4000000 in
set_option maxRecDepth 100000 in
theorem f_mapE (l : Launch) (D : va_G) (cI cC : ClassId) (adK adV : Nat → Nat) (x0 G S rd td la sp dn : Nat) (ra b : Nat) (hb4 : b ≤ 4) (sz : Nat) : Met l yX5_map wsX5_map ({ frames := 0, cells := 0, slots := 0, locals := 0 } : Room) (zPre (zEs adK adV) D vwCl [(cI, .int), (cC, .char)] [.ref x0, .int (nI b)] [(x0, .inr (5, [.ref G, .ref S, .ref rd, .ref td, .ref la, .ref sp, .int (nI dn)])), (rd, .inr (0, [.ref ra, .int (nI 0)]))] sz) (va_Qi (fun (rv : Int32) (uu : Unit) => rv = (-3) ∧ True) (fun (uu : Unit) t9 => va_P D vwCl ([(x0, .inr (5, [.ref G, .ref S, .ref rd, .ref td, .ref la, .ref sp, .int (nI dn)])), (rd, .inr (0, [.ref ra, .int (nI 0)]))]) t9.heap) (va_A [(x0, .inr (5, [.ref G, .ref S, .ref rd, .ref td, .ref la, .ref sp, .int (nI dn)])), (rd, .inr (0, [.ref ra, .int (nI 0)]))] sz)) 0 0 (va_A [(x0, .inr (5, [.ref G, .ref S, .ref rd, .ref td, .ref la, .ref sp, .int (nI dn)])), (rd, .inr (0, [.ref ra, .int (nI 0)]))] sz) := by
  refine zMet (cc := cX5_map) (maxL := 3) (ret := (some .int)) (Qc := fun A => (va_Qi (fun (rv : Int32) (uu : Unit) => rv = (-3) ∧ True) (fun (uu : Unit) t9 => va_P D vwCl ([(x0, .inr (5, [.ref G, .ref S, .ref rd, .ref td, .ref la, .ref sp, .int (nI dn)])), (rd, .inr (0, [.ref ra, .int (nI 0)]))]) t9.heap) A)) (by decide) rfl (Nat.le_of_ble_eq_true rfl) ?_
  intro pr en s0 mi bl me co A hC hA hK hE H locs hP hD hS ls hl
  obtain ⟨hx, hb, hr, hml, hown, hts, hlocks, hin⟩ := id hC
  have hl : lv_has ls 3 [(0, .ref x0), (1, .int (nI b))] := hl
  refine lv_iload_n hx hb dX5_map_0 rfl (lv_at hl 1 rfl) ?_
  refine zz_lt0 (tgt := 9) hx hb dX5_map_1 (by decide) (by omega) ?_
  refine lv_iload_n hx hb dX5_map_4 rfl (lv_at hl 1 rfl) ?_
  refine lv_iconst (v := nI 4) hx hb dX5_map_5 (by decide) ?_
  refine zz_le (tgt := 12) hx hb dX5_map_6 (by decide) (by omega) (by omega) (fun c6 => ?_) (fun c6 => ?_)
  · skip
    refine lv_aload_n hx hb dX5_map_12 rfl (lv_at hl 0 rfl) ?_
    refine va_get (D := D) (ci := 5) (v := .ref rd) (C := RX5) (T := TX5) (N := 7) hx hb hts (fun w h => List.mem_cons_of_mem _ (inUX5 w h)) hown hK hP 0 rfl rfl 2 (by decide) (hts _ (List.mem_cons_of_mem _ mw_156)) (fun _ h9 => h9) rfl dX5_map_13 ?_
    refine va_getN (D := D) (ci := 0) (v := .int (nI 0)) (C := RX0) (T := TX0) (N := 2) hx hb hts (fun w h => List.mem_cons_of_mem _ (inUX0 w h)) hown hK hP 1 rfl rfl 1 (by decide) (va_Nw.use rfl (hE.1.1 ("StrandMapper", 63, "StrandMapper$Bases", "used", "I", "StrandMapper") (by decide +kernel))) (fun _ h9 => h9) rfl dX5_map_16 ?_
    refine lv_if_ne (tgt := 25) hx hb dX5_map_19 (by decide) (fun h9 => absurd (by decide) h9) (fun _ => ?_)
    refine lv_bipush (v := (-3)) hx hb dX5_map_22 (by decide) ?_
    exact zIret hC hS () ⟨rfl, trivial⟩ hP (vp_nar_int _) dX5_map_24
  · skip
    exact absurd c6 (by omega)
set_option maxHeartbeats 4000000 in
set_option maxRecDepth 100000 in
theorem j_map0 (l : Launch) (D : va_G) (cI cC : ClassId)  (m0 gA n tA w fo pA sA mA ma npA nsA nmA le lA dr dA dn : Nat) (ch nc : Int32) (b : Int32) (hbad : b < 0 ∨ nI 4 < b) (sz : Nat) : Met l yX6_map wsX6_map ({ frames := 0, cells := 0, slots := 0, locals := 0 } : Room) (zPre zE0 D vwCl [(cI, .int), (cC, .char)] [.ref m0, .int b] [(m0, .inr (6, [.ref gA, .int (nI n), .ref tA, .int (nI w), .int (nI fo), .ref pA, .ref sA, .ref mA, .int ch, .int (nI ma), .ref npA, .ref nsA, .ref nmA, .int nc, .int (nI le), .ref lA, .int (nI dr), .ref dA, .int (nI dn)]))] sz) (va_Qi (fun (rv : Int32) (uu : Unit) => rv = (-2) ∧ True) (fun (uu : Unit) t9 => va_P D vwCl ([(m0, .inr (6, [.ref gA, .int (nI n), .ref tA, .int (nI w), .int (nI fo), .ref pA, .ref sA, .ref mA, .int ch, .int (nI ma), .ref npA, .ref nsA, .ref nmA, .int nc, .int (nI le), .ref lA, .int (nI dr), .ref dA, .int (nI dn)]))]) t9.heap) (va_A [(m0, .inr (6, [.ref gA, .int (nI n), .ref tA, .int (nI w), .int (nI fo), .ref pA, .ref sA, .ref mA, .int ch, .int (nI ma), .ref npA, .ref nsA, .ref nmA, .int nc, .int (nI le), .ref lA, .int (nI dr), .ref dA, .int (nI dn)]))] sz)) 0 0 (va_A [(m0, .inr (6, [.ref gA, .int (nI n), .ref tA, .int (nI w), .int (nI fo), .ref pA, .ref sA, .ref mA, .int ch, .int (nI ma), .ref npA, .ref nsA, .ref nmA, .int nc, .int (nI le), .ref lA, .int (nI dr), .ref dA, .int (nI dn)]))] sz) := by
  refine zMet (cc := cX6_map) (maxL := 3) (ret := (some .int)) (Qc := fun A => (va_Qi (fun (rv : Int32) (uu : Unit) => rv = (-2) ∧ True) (fun (uu : Unit) t9 => va_P D vwCl ([(m0, .inr (6, [.ref gA, .int (nI n), .ref tA, .int (nI w), .int (nI fo), .ref pA, .ref sA, .ref mA, .int ch, .int (nI ma), .ref npA, .ref nsA, .ref nmA, .int nc, .int (nI le), .ref lA, .int (nI dr), .ref dA, .int (nI dn)]))]) t9.heap) A)) (by decide) rfl (Nat.le_of_ble_eq_true rfl) ?_
  intro pr en s0 mi bl me co A hC hA hK hE H locs hP hD hS ls hl
  obtain ⟨hx, hb, hr, hml, hown, hts, hlocks, hin⟩ := id hC
  have hl : lv_has ls 3 [(0, .ref m0), (1, .int b)] := hl
  refine lv_iload_n hx hb dX6_map_0 rfl (lv_at hl 1 rfl) ?_
  refine lv_if_lt (tgt := 9) hx hb dX6_map_1 (by decide) (fun c1 => ?_) (fun c1 => ?_)
  · skip
    refine lv_bipush (v := (-2)) hx hb dX6_map_9 (by decide) ?_
    exact zIret hC hS () ⟨rfl, trivial⟩ hP (vp_nar_int _) dX6_map_11
  · skip
    refine lv_iload_n hx hb dX6_map_4 rfl (lv_at hl 1 rfl) ?_
    refine lv_iconst (v := nI 4) hx hb dX6_map_5 (by decide) ?_
    refine lv_icmp_le (tgt := 12) hx hb dX6_map_6 (by decide) (fun c6 => ?_) (fun c6 => ?_)
    · skip
      exact absurd hbad (fun q => by rcases q with q | q; exact c1 q; exact absurd q (Int32.not_lt.mpr c6))
    · skip
      refine lv_bipush (v := (-2)) hx hb dX6_map_9 (by decide) ?_
      exact zIret hC hS () ⟨rfl, trivial⟩ hP (vp_nar_int _) dX6_map_11
set_option maxHeartbeats 4000000 in
set_option maxRecDepth 100000 in
theorem j_mapE (l : Launch) (D : va_G) (cI cC : ClassId)  (m0 gA n tA fo pA sA mA ma npA nsA nmA le lA dr dA dn : Nat) (ch nc : Int32) (b : Nat) (hb4 : b ≤ 4) (sz : Nat) : Met l yX6_map wsX6_map ({ frames := 0, cells := 0, slots := 0, locals := 0 } : Room) (zPre zE0 D vwCl [(cI, .int), (cC, .char)] [.ref m0, .int (nI b)] [(m0, .inr (6, [.ref gA, .int (nI n), .ref tA, .int (nI 0), .int (nI fo), .ref pA, .ref sA, .ref mA, .int ch, .int (nI ma), .ref npA, .ref nsA, .ref nmA, .int nc, .int (nI le), .ref lA, .int (nI dr), .ref dA, .int (nI dn)]))] sz) (va_Qi (fun (rv : Int32) (uu : Unit) => rv = (-3) ∧ True) (fun (uu : Unit) t9 => va_P D vwCl ([(m0, .inr (6, [.ref gA, .int (nI n), .ref tA, .int (nI 0), .int (nI fo), .ref pA, .ref sA, .ref mA, .int ch, .int (nI ma), .ref npA, .ref nsA, .ref nmA, .int nc, .int (nI le), .ref lA, .int (nI dr), .ref dA, .int (nI dn)]))]) t9.heap) (va_A [(m0, .inr (6, [.ref gA, .int (nI n), .ref tA, .int (nI 0), .int (nI fo), .ref pA, .ref sA, .ref mA, .int ch, .int (nI ma), .ref npA, .ref nsA, .ref nmA, .int nc, .int (nI le), .ref lA, .int (nI dr), .ref dA, .int (nI dn)]))] sz)) 0 0 (va_A [(m0, .inr (6, [.ref gA, .int (nI n), .ref tA, .int (nI 0), .int (nI fo), .ref pA, .ref sA, .ref mA, .int ch, .int (nI ma), .ref npA, .ref nsA, .ref nmA, .int nc, .int (nI le), .ref lA, .int (nI dr), .ref dA, .int (nI dn)]))] sz) := by
  refine zMet (cc := cX6_map) (maxL := 3) (ret := (some .int)) (Qc := fun A => (va_Qi (fun (rv : Int32) (uu : Unit) => rv = (-3) ∧ True) (fun (uu : Unit) t9 => va_P D vwCl ([(m0, .inr (6, [.ref gA, .int (nI n), .ref tA, .int (nI 0), .int (nI fo), .ref pA, .ref sA, .ref mA, .int ch, .int (nI ma), .ref npA, .ref nsA, .ref nmA, .int nc, .int (nI le), .ref lA, .int (nI dr), .ref dA, .int (nI dn)]))]) t9.heap) A)) (by decide) rfl (Nat.le_of_ble_eq_true rfl) ?_
  intro pr en s0 mi bl me co A hC hA hK hE H locs hP hD hS ls hl
  obtain ⟨hx, hb, hr, hml, hown, hts, hlocks, hin⟩ := id hC
  have hl : lv_has ls 3 [(0, .ref m0), (1, .int (nI b))] := hl
  refine lv_iload_n hx hb dX6_map_0 rfl (lv_at hl 1 rfl) ?_
  refine zz_lt0 (tgt := 9) hx hb dX6_map_1 (by decide) (by omega) ?_
  refine lv_iload_n hx hb dX6_map_4 rfl (lv_at hl 1 rfl) ?_
  refine lv_iconst (v := nI 4) hx hb dX6_map_5 (by decide) ?_
  refine zz_le (tgt := 12) hx hb dX6_map_6 (by decide) (by omega) (by omega) (fun c6 => ?_) (fun c6 => ?_)
  · skip
    refine lv_aload_n hx hb dX6_map_12 rfl (lv_at hl 0 rfl) ?_
    refine va_get (D := D) (ci := 6) (v := .int (nI 0)) (C := RX6) (T := TX6) (N := 19) hx hb hts (fun w h => List.mem_cons_of_mem _ (inUX6 w h)) hown hK hP 0 rfl rfl 3 (by decide) (hts _ (List.mem_cons_of_mem _ mw_441)) (fun _ h9 => h9) rfl dX6_map_13 ?_
    refine lv_if_ne (tgt := 22) hx hb dX6_map_16 (by decide) (fun h9 => absurd (by decide) h9) (fun _ => ?_)
    refine lv_bipush (v := (-3)) hx hb dX6_map_19 (by decide) ?_
    exact zIret hC hS () ⟨rfl, trivial⟩ hP (vp_nar_int _) dX6_map_21
  · skip
    exact absurd c6 (by omega)
