set_option maxHeartbeats 4000000 in
set_option maxRecDepth 100000 in
theorem k_tempty (l : Launch) (D : va_G) (cI cC : ClassId)  (h ca n : Nat)  (sz : Nat) : Met l yX2_empty wsX2_empty ({ frames := 0, cells := 0, slots := 0, locals := 0 } : Room) (zPre zE0 D vwCl [(cI, .int), (cC, .char)] [.ref h] [(h, .inr (2, [.ref ca, .int (nI n)]))] sz) (va_Qv (fun (uu : Unit) => True) (fun (uu : Unit) t9 => va_P D vwCl ([(h, .inr (2, [.ref ca, .int (nI 0)]))]) t9.heap) (va_A [(h, .inr (2, [.ref ca, .int (nI n)]))] sz)) 0 0 (va_A [(h, .inr (2, [.ref ca, .int (nI n)]))] sz) := by
  refine zMet (cc := cX2_empty) (maxL := 1) (ret := none) (Qc := fun A => (va_Qv (fun (uu : Unit) => True) (fun (uu : Unit) t9 => va_P D vwCl ([(h, .inr (2, [.ref ca, .int (nI 0)]))]) t9.heap) A)) (by decide) rfl (Nat.le_of_ble_eq_true rfl) ?_
  intro pr en s0 mi bl me co A hC hA hK hE H locs hP hD hS ls hl
  obtain ⟨hx, hb, hr, hml, hown, hts, hlocks, hin⟩ := id hC
  have hl : lv_has ls 1 [(0, .ref h)] := hl
  refine lv_aload_n hx hb dX2_empty_0 rfl (lv_at hl 0 rfl) ?_
  refine lv_iconst (v := nI 0) hx hb dX2_empty_1 (by decide) ?_
  refine va_put (D := D) (ci := 2) (v := .int (nI 0)) (ty := .int) (C := RX2) (T := TX2) (N := 2) hx hb hts (fun w h => List.mem_cons_of_mem _ (inUX2 w h)) tyX2 tyX2_ok nmX2 hown hK hP hD hS 0 rfl rfl 1 (by decide) (hts _ (List.mem_cons_of_mem _ mw_137)) (fun _ h9 => h9) rfl (by decide +kernel) rfl rfl (Nat.le_of_ble_eq_true rfl) dX2_empty_2 (fun H locs hP hD hS => ?_)
  have hP : va_P D vwCl [(h, .inr (2, [.ref ca, .int (nI 0)]))] H := hP
  have hD : va_D A [(h, .inr (2, [.ref ca, .int (nI 0)]))] := hD
  exact zVret hC hS () trivial hP dX2_empty_5
set_option maxHeartbeats 4000000 in
set_option maxRecDepth 100000 in
theorem k_isOver (l : Launch) (D : va_G) (cI cC : ClassId)  (h ca n : Nat) (hn : n ≤ 2000000) (sz : Nat) : Met l yX2_isOver wsX2_isOver ({ frames := 0, cells := 0, slots := 0, locals := 0 } : Room) (zPre zE0 D vwCl [(cI, .int), (cC, .char)] [.ref h] [(h, .inr (2, [.ref ca, .int (nI n)]))] sz) (va_Qi (fun (rv : Int32) (uu : Unit) => rv = zb (1500 < n) ∧ True) (fun (uu : Unit) t9 => va_P D vwCl ([(h, .inr (2, [.ref ca, .int (nI n)]))]) t9.heap) (va_A [(h, .inr (2, [.ref ca, .int (nI n)]))] sz)) 0 0 (va_A [(h, .inr (2, [.ref ca, .int (nI n)]))] sz) := by
  refine zMet (cc := cX2_isOver) (maxL := 1) (ret := (some .boolean)) (Qc := fun A => (va_Qi (fun (rv : Int32) (uu : Unit) => rv = zb (1500 < n) ∧ True) (fun (uu : Unit) t9 => va_P D vwCl ([(h, .inr (2, [.ref ca, .int (nI n)]))]) t9.heap) A)) (by decide) rfl (Nat.le_of_ble_eq_true rfl) ?_
  intro pr en s0 mi bl me co A hC hA hK hE H locs hP hD hS ls hl
  obtain ⟨hx, hb, hr, hml, hown, hts, hlocks, hin⟩ := id hC
  have hl : lv_has ls 1 [(0, .ref h)] := hl
  refine lv_aload_n hx hb dX2_isOver_0 rfl (lv_at hl 0 rfl) ?_
  refine va_get (D := D) (ci := 2) (v := .int (nI n)) (C := RX2) (T := TX2) (N := 2) hx hb hts (fun w h => List.mem_cons_of_mem _ (inUX2 w h)) hown hK hP 0 rfl rfl 1 (by decide) (hts _ (List.mem_cons_of_mem _ mw_137)) (fun _ h9 => h9) rfl dX2_isOver_1 ?_
  refine lv_sipush (v := nI 1500) hx hb dX2_isOver_4 (by decide) ?_
  refine zz_le (tgt := 14) hx hb dX2_isOver_7 (by decide) (by omega) (by omega) (fun c7 => ?_) (fun c7 => ?_)
  · skip
    refine lv_iconst (v := nI 0) hx hb dX2_isOver_14 (by decide) ?_
    exact zIret hC hS () ⟨(zb_f (by omega)).symm, trivial⟩ hP (by decide) dX2_isOver_15
  · skip
    refine lv_iconst (v := nI 1) hx hb dX2_isOver_10 (by decide) ?_
    refine lv_goto (tgt := 15) hx hb dX2_isOver_11 (by decide) ?_
    exact zIret hC hS () ⟨(zb_t (by omega)).symm, trivial⟩ hP (by decide) dX2_isOver_15
set_option maxHeartbeats 4000000 in
set_option maxRecDepth 100000 in
theorem k_tput (l : Launch) (D : va_G) (cI cC : ClassId)  (h ca : Nat) (x : Nat) (T : List Nat) (a : Nat → Nat) (hxx : x < 65536) (hT : T.length + 1 ≤ 2000000) (ha : zAG a T) (sz : Nat) : Met l yX2_put wsX2_put ({ frames := 0, cells := 0, slots := 0, locals := 0 } : Room) (zPre zE0 D vwCl [(cI, .int), (cC, .char)] [.ref h, .int (nI x)] [(h, .inr (2, [.ref ca, .int (nI (T.length))])), (ca, .inl (cC, 1500, .inl (fun jj => nI (a jj))))] sz) (va_Qv (fun (uu : Nat → Nat) => zAG uu (T ++ ([x]))) (fun (uu : Nat → Nat) t9 => va_P D vwCl ([(h, .inr (2, [.ref ca, .int (nI ((T ++ ([x])).length))])), (ca, .inl (cC, 1500, .inl (fun jj => nI (uu jj))))]) t9.heap) (va_A [(h, .inr (2, [.ref ca, .int (nI (T.length))])), (ca, .inl (cC, 1500, .inl (fun jj => nI (a jj))))] sz)) 0 0 (va_A [(h, .inr (2, [.ref ca, .int (nI (T.length))])), (ca, .inl (cC, 1500, .inl (fun jj => nI (a jj))))] sz) := by
  refine zMet (cc := cX2_put) (maxL := 2) (ret := none) (Qc := fun A => (va_Qv (fun (uu : Nat → Nat) => zAG uu (T ++ ([x]))) (fun (uu : Nat → Nat) t9 => va_P D vwCl ([(h, .inr (2, [.ref ca, .int (nI ((T ++ ([x])).length))])), (ca, .inl (cC, 1500, .inl (fun jj => nI (uu jj))))]) t9.heap) A)) (by decide) rfl (Nat.le_of_ble_eq_true rfl) ?_
  intro pr en s0 mi bl me co A hC hA hK hE H locs hP hD hS ls hl
  obtain ⟨hx, hb, hr, hml, hown, hts, hlocks, hin⟩ := id hC
  have hl : lv_has ls 2 [(0, .ref h), (1, .int (nI x))] := hl
  refine lv_aload_n hx hb dX2_put_0 rfl (lv_at hl 0 rfl) ?_
  refine va_get (D := D) (ci := 2) (v := .int (nI (T.length))) (C := RX2) (T := TX2) (N := 2) hx hb hts (fun w h => List.mem_cons_of_mem _ (inUX2 w h)) hown hK hP 0 rfl rfl 1 (by decide) (hts _ (List.mem_cons_of_mem _ mw_137)) (fun _ h9 => h9) rfl dX2_put_1 ?_
  refine lv_sipush (v := nI 1500) hx hb dX2_put_4 (by decide) ?_
  refine zz_ge (tgt := 20) hx hb dX2_put_7 (by decide) (by omega) (by omega) (fun c7 => ?_) (fun c7 => ?_)
  · skip
    refine lv_aload_n hx hb dX2_put_20 rfl (lv_at hl 0 rfl) ?_
    refine lv_dup hx hb dX2_put_21 rfl ?_
    refine va_get (D := D) (ci := 2) (v := .int (nI (T.length))) (C := RX2) (T := TX2) (N := 2) hx hb hts (fun w h => List.mem_cons_of_mem _ (inUX2 w h)) hown hK hP 0 rfl rfl 1 (by decide) (hts _ (List.mem_cons_of_mem _ mw_137)) (fun _ h9 => h9) rfl dX2_put_22 ?_
    refine lv_iconst (v := nI 1) hx hb dX2_put_25 (by decide) ?_
    refine lv_iadd hx hb dX2_put_26 ?_
    refine zz_top (y := nI (T.length + 1)) (zadd (by omega)) ?_
    refine va_put (D := D) (ci := 2) (v := .int (nI (T.length + 1))) (ty := .int) (C := RX2) (T := TX2) (N := 2) hx hb hts (fun w h => List.mem_cons_of_mem _ (inUX2 w h)) tyX2 tyX2_ok nmX2 hown hK hP hD hS 0 rfl rfl 1 (by decide) (hts _ (List.mem_cons_of_mem _ mw_137)) (fun _ h9 => h9) rfl (by decide +kernel) rfl rfl (Nat.le_of_ble_eq_true rfl) dX2_put_27 (fun H locs hP hD hS => ?_)
    have hP : va_P D vwCl [(h, .inr (2, [.ref ca, .int (nI (T.length + 1))])), (ca, .inl (cC, 1500, .inl (fun jj => nI (a jj))))] H := hP
    have hD : va_D A [(h, .inr (2, [.ref ca, .int (nI (T.length + 1))])), (ca, .inl (cC, 1500, .inl (fun jj => nI (a jj))))] := hD
    have hP : va_P D vwCl [(h, .inr (2, [.ref ca, .int (nI ((T ++ [x]).length))])), (ca, .inl (cC, 1500, .inl (fun jj => nI (a jj))))] H := by rw [zlen1]; exact hP
    have hD : va_D A [(h, .inr (2, [.ref ca, .int (nI ((T ++ [x]).length))])), (ca, .inl (cC, 1500, .inl (fun jj => nI (a jj))))] := by rw [zlen1]; exact hD
    exact zVret hC hS a (zAG_over ha c7) hP dX2_put_30
  · skip
    refine lv_aload_n hx hb dX2_put_10 rfl (lv_at hl 0 rfl) ?_
    refine va_get (D := D) (ci := 2) (v := .ref ca) (C := RX2) (T := TX2) (N := 2) hx hb hts (fun w h => List.mem_cons_of_mem _ (inUX2 w h)) hown hK hP 0 rfl rfl 0 (by decide) (hts _ (List.mem_cons_of_mem _ mw_135)) (fun _ h9 => h9) rfl dX2_put_11 ?_
    refine lv_aload_n hx hb dX2_put_14 rfl (lv_at hl 0 rfl) ?_
    refine va_get (D := D) (ci := 2) (v := .int (nI (T.length))) (C := RX2) (T := TX2) (N := 2) hx hb hts (fun w h => List.mem_cons_of_mem _ (inUX2 w h)) hown hK hP 0 rfl rfl 1 (by decide) (hts _ (List.mem_cons_of_mem _ mw_137)) (fun _ h9 => h9) rfl dX2_put_15 ?_
    refine lv_iload_n hx hb dX2_put_18 rfl (lv_at hl 1 rfl) ?_
    refine zz_cast (k := T.length) (x := x) (f := a) hx hb hK hP hD hS 1 1 rfl rfl (by omega) (by omega) (by omega) dX2_put_19 (fun H locs hP hD hS => ?_)
    have hP : va_P D vwCl [(h, .inr (2, [.ref ca, .int (nI (T.length))])), (ca, .inl (cC, 1500, .inl (fun jj => nI (zup a T.length x jj))))] H := hP
    have hD : va_D A [(h, .inr (2, [.ref ca, .int (nI (T.length))])), (ca, .inl (cC, 1500, .inl (fun jj => nI (zup a T.length x jj))))] := hD
    refine lv_aload_n hx hb dX2_put_20 rfl (lv_at hl 0 rfl) ?_
    refine lv_dup hx hb dX2_put_21 rfl ?_
    refine va_get (D := D) (ci := 2) (v := .int (nI (T.length))) (C := RX2) (T := TX2) (N := 2) hx hb hts (fun w h => List.mem_cons_of_mem _ (inUX2 w h)) hown hK hP 0 rfl rfl 1 (by decide) (hts _ (List.mem_cons_of_mem _ mw_137)) (fun _ h9 => h9) rfl dX2_put_22 ?_
    refine lv_iconst (v := nI 1) hx hb dX2_put_25 (by decide) ?_
    refine lv_iadd hx hb dX2_put_26 ?_
    refine zz_top (y := nI (T.length + 1)) (zadd (by omega)) ?_
    refine va_put (D := D) (ci := 2) (v := .int (nI (T.length + 1))) (ty := .int) (C := RX2) (T := TX2) (N := 2) hx hb hts (fun w h => List.mem_cons_of_mem _ (inUX2 w h)) tyX2 tyX2_ok nmX2 hown hK hP hD hS 0 rfl rfl 1 (by decide) (hts _ (List.mem_cons_of_mem _ mw_137)) (fun _ h9 => h9) rfl (by decide +kernel) rfl rfl (Nat.le_of_ble_eq_true rfl) dX2_put_27 (fun H locs hP hD hS => ?_)
    have hP : va_P D vwCl [(h, .inr (2, [.ref ca, .int (nI (T.length + 1))])), (ca, .inl (cC, 1500, .inl (fun jj => nI (zup a T.length x jj))))] H := hP
    have hD : va_D A [(h, .inr (2, [.ref ca, .int (nI (T.length + 1))])), (ca, .inl (cC, 1500, .inl (fun jj => nI (zup a T.length x jj))))] := hD
    have hP : va_P D vwCl [(h, .inr (2, [.ref ca, .int (nI ((T ++ [x]).length))])), (ca, .inl (cC, 1500, .inl (fun jj => nI (zup a T.length x jj))))] H := by rw [zlen1]; exact hP
    have hD : va_D A [(h, .inr (2, [.ref ca, .int (nI ((T ++ [x]).length))])), (ca, .inl (cC, 1500, .inl (fun jj => nI (zup a T.length x jj))))] := by rw [zlen1]; exact hD
    exact zVret hC hS (zup a T.length x) (zAG_put ha) hP dX2_put_30
set_option maxHeartbeats 4000000 in
set_option maxRecDepth 100000 in
theorem k_putText_L2 {pr : Program} {en : Env} {s0 : State} {mi : MethodId} {bl : List Frame} {me : Method} {co : Code} {A : Nat → Prop} (l : Launch) (D : va_G) (cI cC : ClassId) (adK adV : Nat → Nat) (h ca : Nat) (i : Nat) (T : List Nat) (a : Nat → Nat) (hi : i < nJS) (hT : T.length + 100 ≤ 2000000) (ha : zAG a T) (hC : zK pr s0 mi ([.ref h, .ref (adK i)] : List Value).toArray me co cX2_putText 3 none yX2_putText wsX2_putText) (hA : ∀ q, s0.heap.size ≤ q → A q) (hK : va_K D vwCl [(cI, .int), (cC, .char)] s0) (hE : (zEs adK adV) A s0 s0.heap) :
    ∀ (N : Nat) (k : Nat) (b : Nat → Nat), lenJS.getD i 0 - k < N → (k ≤ lenJS.getD i 0) → (zAG b (T ++ (ztx i).take k)) → ∀ (H : Heap) (locs : List Loc), va_P D vwCl [(h, .inr (2, [.ref ca, .int (nI ((T ++ (ztx i).take k).length))])), (ca, .inl (cC, 1500, .inl (fun jj => nI (b jj))))] H → va_D A [(h, .inr (2, [.ref ca, .int (nI ((T ++ (ztx i).take k).length))])), (ca, .inl (cC, 1500, .inl (fun jj => nI (b jj))))] → va_S A s0.heap H locs → ∀ ls : Array Slot, lv_has ls 3 [(0, .ref h), (1, .ref (adK i)), (2, .int (nI k))] → W pr l en ({ frames := 4, cells := 0, slots := 0, locals := 85 } : Room) s0 mi ([.ref h, .ref (adK i)] : List Value).toArray bl me co H locs 0 0 (MQ bl (va_Qv (fun (uu : Nat → Nat) => zAG uu (T ++ (ztx i))) (fun (uu : Nat → Nat) t9 => va_P D vwCl ([(h, .inr (2, [.ref ca, .int (nI ((T ++ (ztx i)).length))])), (ca, .inl (cC, 1500, .inl (fun jj => nI (uu jj))))]) t9.heap) A) ([.ref h, .ref (adK i)] : List Value).toArray s0 0 0 A) (F0 mi 2 ls []) := by
  obtain ⟨hx, hb, hr, hml, hown, hts, hlocks, hin⟩ := id hC
  intro N
  induction N with
  | zero =>
    intro k b hmea
    omega
  | succ N ih =>
    intro k b hmea hk hac H locs hP hD hS ls hl
    have l1 := zs_len hi
    have l2 := zs_len2 hi
    have l3 : (T ++ (ztx i).take k).length ≤ T.length + k := by rw [List.length_append, List.length_take]; omega
    refine lv_iload_n hx hb dX2_putText_2 rfl (lv_at hl 2 rfl) ?_
    refine lv_aload_n hx hb dX2_putText_3 rfl (lv_at hl 1 rfl) ?_
    refine zCi (is := []) (wf := (fun (uu : Unit) => ([] : va_W))) (va_runV (As := []) (rest := [.int (nI k)]) ⟨hx, hb, hml, hown, hts⟩ (s_length l D cI cC adK adV i hi H.size) (cwV 0 hts (zgood mw_313 mw_314 mw_315 mw_33 mw_316) rfl rfl rfl (by decide +kernel) ⟨Nat.le_of_ble_eq_true rfl, Nat.le_of_ble_eq_true rfl⟩) ⟨zBlind (zEs_ok adK adV), vk_recv hE.2.1 hi hS, zAt (av := [.ref (adK i)]) (zEs_ok adK adV) hP hD hK hS hA hE [] rfl (by decide)⟩ rfl rfl hl.1 rfl (lv_room (Nat.le_of_ble_eq_true rfl)) dX2_putText_4 ⟨Nat.zero_le _, Nat.zero_le _⟩) hP hD hS hA rfl (fun _ => rfl) (fun r4 u4 H locs w4 hP hD hS => ?_)
    obtain ⟨rfl, w4⟩ := w4
    have hP : va_P D vwCl [(h, .inr (2, [.ref ca, .int (nI ((T ++ (ztx i).take k).length))])), (ca, .inl (cC, 1500, .inl (fun jj => nI (b jj))))] H := hP
    have hD : va_D A [(h, .inr (2, [.ref ca, .int (nI ((T ++ (ztx i).take k).length))])), (ca, .inl (cC, 1500, .inl (fun jj => nI (b jj))))] := hD
    refine zz_ge (tgt := 25) hx hb dX2_putText_7 (by decide) (by omega) (by omega) (fun c7 => ?_) (fun c7 => ?_)
    · skip
      have eT : (T ++ (ztx i).take k) = T ++ ztx i := by rw [List.take_of_length_le (by rw [zs_tlen]; omega)]
      rw [eT] at hP hD hac
      have hP : va_P D vwCl [(h, .inr (2, [.ref ca, .int (nI ((T ++ ztx i).length))])), (ca, .inl (cC, 1500, .inl (fun jj => nI (b jj))))] H := hP
      have hD : va_D A [(h, .inr (2, [.ref ca, .int (nI ((T ++ ztx i).length))])), (ca, .inl (cC, 1500, .inl (fun jj => nI (b jj))))] := hD
      exact zVret hC hS b hac hP dX2_putText_25
    · skip
      have l4 := zs_lt hi (show k < lenJS.getD i 0 by omega)
      refine lv_aload_n hx hb dX2_putText_10 rfl (lv_at hl 0 rfl) ?_
      refine lv_aload_n hx hb dX2_putText_11 rfl (lv_at hl 1 rfl) ?_
      refine lv_iload_n hx hb dX2_putText_12 rfl (lv_at hl 2 rfl) ?_
      refine zCi (is := []) (wf := (fun (uu : Unit) => ([] : va_W))) (va_runV (As := [.int (nI k)]) (rest := [.ref h]) ⟨hx, hb, hml, hown, hts⟩ (s_charAt l D cI cC adK adV i k hi (by omega) H.size) (cwV 1 hts (zgood mw_323 mw_324 mw_325 mw_33 mw_326) rfl rfl rfl (by decide +kernel) ⟨Nat.le_of_ble_eq_true rfl, Nat.le_of_ble_eq_true rfl⟩) ⟨zBlind (zEs_ok adK adV), vk_recv hE.2.1 hi hS, zAt (av := [.ref (adK i), .int (nI k)]) (zEs_ok adK adV) hP hD hK hS hA hE [] rfl (by decide)⟩ rfl rfl hl.1 rfl (lv_room (Nat.le_of_ble_eq_true rfl)) dX2_putText_13 ⟨Nat.zero_le _, Nat.zero_le _⟩) hP hD hS hA rfl (fun _ => rfl) (fun r13 u13 H locs w13 hP hD hS => ?_)
      obtain ⟨rfl, w13⟩ := w13
      have hP : va_P D vwCl [(h, .inr (2, [.ref ca, .int (nI ((T ++ (ztx i).take k).length))])), (ca, .inl (cC, 1500, .inl (fun jj => nI (b jj))))] H := hP
      have hD : va_D A [(h, .inr (2, [.ref ca, .int (nI ((T ++ (ztx i).take k).length))])), (ca, .inl (cC, 1500, .inl (fun jj => nI (b jj))))] := hD
      refine zCv (is := [0, 1]) (wf := (fun (uu : Nat → Nat) => ([(h, .inr (2, [.ref ca, .int (nI (((T ++ (ztx i).take k) ++ ([(ztc i k)])).length))])), (ca, .inl (cC, 1500, .inl (fun jj => nI (uu jj))))] : va_W))) (va_runV (As := [.int (nI (ztc i k))]) (rest := []) ⟨hx, hb, hml, hown, hts⟩ (k_tput l D cI cC  h ca (ztc i k) (T ++ (ztx i).take k) b (by omega) (by omega) hac H.size) (cwV 1 hts (zgood mw_361 mw_362 mw_363 mw_31 mw_364) rfl rfl rfl (by decide +kernel) ⟨Nat.le_of_ble_eq_true rfl, Nat.le_of_ble_eq_true rfl⟩) ⟨zBlind zE0_ok, va_recv hK hP (ci := 2) (q0 := 0) rfl rfl, zAt (av := [.ref h, .int (nI (ztc i k))]) zE0_ok hP hD hK hS hA trivial [0, 1] rfl (by decide)⟩ rfl rfl hl.1 rfl (lv_room (Nat.le_of_ble_eq_true rfl)) dX2_putText_16 ⟨Nat.zero_le _, Nat.zero_le _⟩) hP hD hS hA rfl (fun _ => rfl) (fun u16 H locs w16 hP hD hS => ?_)
      have hP : va_P D vwCl [(h, .inr (2, [.ref ca, .int (nI (((T ++ (ztx i).take k) ++ ([(ztc i k)])).length))])), (ca, .inl (cC, 1500, .inl (fun jj => nI (u16 jj))))] H := hP
      have hD : va_D A [(h, .inr (2, [.ref ca, .int (nI (((T ++ (ztx i).take k) ++ ([(ztc i k)])).length))])), (ca, .inl (cC, 1500, .inl (fun jj => nI (u16 jj))))] := hD
      obtain ⟨T16, hT16⟩ : ∃ y9, y9 = (T ++ (ztx i).take k) ++ ([(ztc i k)]) := ⟨_, rfl⟩
      rw [← hT16] at hP hD w16
      have lT16 : T16.length ≤ (T ++ (ztx i).take k).length + 1 := by rw [hT16, List.length_append]; simp
      have hP : va_P D vwCl [(h, .inr (2, [.ref ca, .int (nI (T16.length))])), (ca, .inl (cC, 1500, .inl (fun jj => nI (u16 jj))))] H := hP
      have hD : va_D A [(h, .inr (2, [.ref ca, .int (nI (T16.length))])), (ca, .inl (cC, 1500, .inl (fun jj => nI (u16 jj))))] := hD
      refine lv_iinc (v := nI (k + 1)) (lv' := [(2, .int (nI (k + 1))), (0, .ref h), (1, .ref (adK i))]) hx hb dX2_putText_19 hl (k := 2) rfl (zincE (by omega)) (by decide) rfl (fun ls hl => ?_)
      refine lv_goto (tgt := 2) hx hb dX2_putText_22 (by decide) ?_
      have eT : T16 = (T ++ (ztx i).take (k + 1)) := by rw [hT16, List.append_assoc, zs_take (show k < lenJS.getD i 0 by omega)]
      rw [eT] at hP hD w16
      have hP : va_P D vwCl [(h, .inr (2, [.ref ca, .int (nI ((T ++ (ztx i).take (k + 1)).length))])), (ca, .inl (cC, 1500, .inl (fun jj => nI (u16 jj))))] H := hP
      have hD : va_D A [(h, .inr (2, [.ref ca, .int (nI ((T ++ (ztx i).take (k + 1)).length))])), (ca, .inl (cC, 1500, .inl (fun jj => nI (u16 jj))))] := hD
      exact ih (k + 1) u16 (by omega) (by omega) w16 _ _ hP hD hS ls (lv_sub hl [1, 2, 0] rfl)
set_option maxHeartbeats 4000000 in
set_option maxRecDepth 100000 in
theorem k_putText (l : Launch) (D : va_G) (cI cC : ClassId) (adK adV : Nat → Nat) (h ca : Nat) (i : Nat) (T : List Nat) (a : Nat → Nat) (hi : i < nJS) (hT : T.length + 100 ≤ 2000000) (ha : zAG a T) (sz : Nat) : Met l yX2_putText wsX2_putText ({ frames := 4, cells := 0, slots := 0, locals := 85 } : Room) (zPre (zEs adK adV) D vwCl [(cI, .int), (cC, .char)] [.ref h, .ref (adK i)] [(h, .inr (2, [.ref ca, .int (nI (T.length))])), (ca, .inl (cC, 1500, .inl (fun jj => nI (a jj))))] sz) (va_Qv (fun (uu : Nat → Nat) => zAG uu (T ++ (ztx i))) (fun (uu : Nat → Nat) t9 => va_P D vwCl ([(h, .inr (2, [.ref ca, .int (nI ((T ++ (ztx i)).length))])), (ca, .inl (cC, 1500, .inl (fun jj => nI (uu jj))))]) t9.heap) (va_A [(h, .inr (2, [.ref ca, .int (nI (T.length))])), (ca, .inl (cC, 1500, .inl (fun jj => nI (a jj))))] sz)) 0 0 (va_A [(h, .inr (2, [.ref ca, .int (nI (T.length))])), (ca, .inl (cC, 1500, .inl (fun jj => nI (a jj))))] sz) := by
  refine zMet (cc := cX2_putText) (maxL := 3) (ret := none) (Qc := fun A => (va_Qv (fun (uu : Nat → Nat) => zAG uu (T ++ (ztx i))) (fun (uu : Nat → Nat) t9 => va_P D vwCl ([(h, .inr (2, [.ref ca, .int (nI ((T ++ (ztx i)).length))])), (ca, .inl (cC, 1500, .inl (fun jj => nI (uu jj))))]) t9.heap) A)) (by decide) rfl (Nat.le_of_ble_eq_true rfl) ?_
  intro pr en s0 mi bl me co A hC hA hK hE H locs hP hD hS ls hl
  obtain ⟨hx, hb, hr, hml, hown, hts, hlocks, hin⟩ := id hC
  have hl : lv_has ls 3 [(0, .ref h), (1, .ref (adK i))] := hl
  refine lv_iconst (v := nI 0) hx hb dX2_putText_0 (by decide) ?_
  refine lv_istore_n (lv' := [(2, .int (nI 0)), (0, .ref h), (1, .ref (adK i))]) hx hb dX2_putText_1 rfl hl (by decide) rfl (fun ls hl => ?_)
  have hP : va_P D vwCl [(h, .inr (2, [.ref ca, .int (nI ((T ++ (ztx i).take 0).length))])), (ca, .inl (cC, 1500, .inl (fun jj => nI (a jj))))] H := by rw [List.take_zero, List.append_nil]; exact hP
  have hD : va_D A [(h, .inr (2, [.ref ca, .int (nI ((T ++ (ztx i).take 0).length))])), (ca, .inl (cC, 1500, .inl (fun jj => nI (a jj))))] := by rw [List.take_zero, List.append_nil]; exact hD
  exact k_putText_L2 l D cI cC adK adV h ca i T a hi hT ha hC hA hK hE _ 0 a (Nat.lt_succ_self _) (Nat.zero_le _) (by rw [List.take_zero, List.append_nil]; exact ha) _ _ hP hD hS ls (lv_sub hl [1, 2, 0] rfl)
set_option maxHeartbeats 4000000 in
set_option maxRecDepth 100000 in
theorem k_tputNumber_L5 {pr : Program} {en : Env} {s0 : State} {mi : MethodId} {bl : List Frame} {me : Method} {co : Code} {A : Nat → Prop} (l : Launch) (D : va_G) (cI cC : ClassId)  (h ca : Nat) (x : Nat) (T : List Nat) (a : Nat → Nat) (hxx : x ≤ 100000) (hT : T.length + 10 ≤ 2000000) (ha : zAG a T) (hC : zK pr s0 mi ([.ref h, .int (nI x)] : List Value).toArray me co cX2_putNumber 5 none yX2_putNumber wsX2_putNumber) (hA : ∀ q, s0.heap.size ≤ q → A q) (hK : va_K D vwCl [(cI, .int), (cC, .char)] s0) (hE : zE0 A s0 s0.heap) :
    ∀ (N : Nat) (j : Nat) (be : Bool) (Tc : List Nat) (b : Nat → Nat), j < N → (j ≤ 10) → (Tc ++ zdg x j be = T ++ znum x) → (zAG b Tc) → (Tc.length + j ≤ T.length + 10) → ∀ (H : Heap) (locs : List Loc), va_P D vwCl [(h, .inr (2, [.ref ca, .int (nI (Tc.length))])), (ca, .inl (cC, 1500, .inl (fun jj => nI (b jj))))] H → va_D A [(h, .inr (2, [.ref ca, .int (nI (Tc.length))])), (ca, .inl (cC, 1500, .inl (fun jj => nI (b jj))))] → va_S A s0.heap H locs → ∀ ls : Array Slot, lv_has ls 5 [(0, .ref h), (1, .int (nI x)), (2, .int (zb (be = true))), (3, .int (nI (zpw j)))] → W pr l en ({ frames := 1, cells := 0, slots := 0, locals := 21 } : Room) s0 mi ([.ref h, .int (nI x)] : List Value).toArray bl me co H locs 0 0 (MQ bl (va_Qv (fun (uu : Nat → Nat) => zAG uu (T ++ (znum x))) (fun (uu : Nat → Nat) t9 => va_P D vwCl ([(h, .inr (2, [.ref ca, .int (nI ((T ++ (znum x)).length))])), (ca, .inl (cC, 1500, .inl (fun jj => nI (uu jj))))]) t9.heap) A) ([.ref h, .int (nI x)] : List Value).toArray s0 0 0 A) (F0 mi 5 ls []) := by
  obtain ⟨hx, hb, hr, hml, hown, hts, hlocks, hin⟩ := id hC
  intro N
  induction N with
  | zero =>
    intro j be Tc b hmea
    omega
  | succ N ih =>
    intro j be Tc b hmea hj hS9 hac hlen H locs hP hD hS ls hl
    cases j with
    | zero =>
      have hl : lv_has ls 5 [(0, .ref h), (1, .int (nI x)), (2, .int (zb (be = true))), (3, .int (nI 0))] := hl
      refine lv_iload_n hx hb dX2_putNumber_5 rfl (lv_at hl 3 rfl) ?_
      refine lv_if_le (tgt := 59) hx hb dX2_putNumber_6 (by decide) (fun _ => ?_) (fun h9 => absurd (by decide) h9)
      have eT : Tc = T ++ znum x := by rw [← hS9]; exact (List.append_nil Tc).symm
      rw [eT] at hP hD hac
      have hP : va_P D vwCl [(h, .inr (2, [.ref ca, .int (nI ((T ++ znum x).length))])), (ca, .inl (cC, 1500, .inl (fun jj => nI (b jj))))] H := hP
      have hD : va_D A [(h, .inr (2, [.ref ca, .int (nI ((T ++ znum x).length))])), (ca, .inl (cC, 1500, .inl (fun jj => nI (b jj))))] := hD
      exact zVret hC hS b hac hP dX2_putNumber_59
    | succ j =>
      have hl : lv_has ls 5 [(0, .ref h), (1, .int (nI x)), (2, .int (zb (be = true))), (3, .int (nI (10 ^ j)))] := hl
      have p1 : 0 < 10 ^ j := Nat.pow_pos (by decide)
      have p2 : 10 ^ j ≤ 10 ^ 9 := Nat.pow_le_pow_right (by decide) (by omega)
      have p3 := Nat.mod_lt (x / 10 ^ j) (show 10 > 0 by decide)
      have p4 := Nat.div_le_self x (10 ^ j)
      have p5 := zpow1 j
      refine lv_iload_n hx hb dX2_putNumber_5 rfl (lv_at hl 3 rfl) ?_
      refine zz_le0 (tgt := 59) hx hb dX2_putNumber_6 (by decide) (by omega) (fun c6 => ?_) (fun c6 => ?_)
      · skip
        exact absurd c6 (by omega)
      · skip
        refine lv_iload_n hx hb dX2_putNumber_9 rfl (lv_at hl 1 rfl) ?_
        refine lv_iload_n hx hb dX2_putNumber_10 rfl (lv_at hl 3 rfl) ?_
        refine lv_idiv hx hb dX2_putNumber_11 (nI_ne0 p1 (by omega)) ?_
        refine zz_top (y := nI (x / (10 ^ j))) (pk_div (by omega) p1 (by omega)) ?_
        refine lv_bipush (v := nI 10) hx hb dX2_putNumber_12 (by decide) ?_
        refine lv_irem hx hb dX2_putNumber_14 (nI_ne0 (by omega) (by omega)) ?_
        refine zz_top (y := nI ((x / (10 ^ j)) % 10)) (pk_rem (by omega) (by omega) (by omega)) ?_
        refine lv_istore (lv' := [(4, .int (nI ((x / (10 ^ j)) % 10))), (0, .ref h), (1, .int (nI x)), (2, .int (zb (be = true))), (3, .int (nI (10 ^ j)))]) hx hb dX2_putNumber_15 hl (by decide) rfl (fun ls hl => ?_)
        refine lv_iload_n hx hb dX2_putNumber_17 rfl (lv_at hl 3 rfl) ?_
        refine zz_neb (tgt := 31) hx hb dX2_putNumber_18 (by decide) (fun c18 => ?_) (fun c18 => ?_)
        · skip
          have hyes : be = true ∨ 0 < x / 10 ^ j % 10 ∨ j = 0 := by first | exact Or.inl c18 | exact Or.inr (Or.inl c23) | exact Or.inr (Or.inr (p5.mp c28))
          refine lv_iconst (v := nI 1) hx hb dX2_putNumber_31 (by decide) ?_
          refine lv_goto (tgt := 36) hx hb dX2_putNumber_32 (by decide) ?_
          refine lv_istore_n (lv' := [(2, .int (nI 1)), (4, .int (nI ((x / (10 ^ j)) % 10))), (0, .ref h), (1, .int (nI x)), (3, .int (nI (10 ^ j)))]) hx hb dX2_putNumber_36 rfl hl (by decide) rfl (fun ls hl => ?_)
          refine lv_iload_n hx hb dX2_putNumber_37 rfl (lv_at hl 0 rfl) ?_
          refine lv_if_eq (tgt := 51) hx hb dX2_putNumber_38 (by decide) (fun h9 => absurd h9 (by decide)) (fun _ => ?_)
          refine lv_aload_n hx hb dX2_putNumber_41 rfl (lv_at hl 2 rfl) ?_
          refine lv_bipush (v := nI 48) hx hb dX2_putNumber_42 (by decide) ?_
          refine lv_iload hx hb dX2_putNumber_44 (lv_at hl 1 rfl) ?_
          refine lv_iadd hx hb dX2_putNumber_46 ?_
          refine zz_top (y := nI (48 + ((x / (10 ^ j)) % 10))) (zadd (by omega)) ?_
          refine lv_i2c (v := nI (48 + ((x / (10 ^ j)) % 10))) hx hb dX2_putNumber_47 (zchar (by omega)) ?_
          refine zCv (is := [0, 1]) (wf := (fun (uu : Nat → Nat) => ([(h, .inr (2, [.ref ca, .int (nI ((Tc ++ ([(48 + x / 10 ^ j % 10)])).length))])), (ca, .inl (cC, 1500, .inl (fun jj => nI (uu jj))))] : va_W))) (va_runV (As := [.int (nI (48 + ((x / (10 ^ j)) % 10)))]) (rest := []) ⟨hx, hb, hml, hown, hts⟩ (k_tput l D cI cC  h ca (48 + x / 10 ^ j % 10) Tc b (by omega) (by omega) hac H.size) (cwV 1 hts (zgood mw_361 mw_362 mw_363 mw_31 mw_364) rfl rfl rfl (by decide +kernel) ⟨Nat.le_of_ble_eq_true rfl, Nat.le_of_ble_eq_true rfl⟩) ⟨zBlind zE0_ok, va_recv hK hP (ci := 2) (q0 := 0) rfl rfl, zAt (av := [.ref h, .int (nI (48 + ((x / (10 ^ j)) % 10)))]) zE0_ok hP hD hK hS hA trivial [0, 1] rfl (by decide)⟩ rfl rfl hl.1 rfl (lv_room (Nat.le_of_ble_eq_true rfl)) dX2_putNumber_48 ⟨Nat.zero_le _, Nat.zero_le _⟩) hP hD hS hA rfl (fun _ => rfl) (fun u48 H locs w48 hP hD hS => ?_)
          have hP : va_P D vwCl [(h, .inr (2, [.ref ca, .int (nI ((Tc ++ ([(48 + x / 10 ^ j % 10)])).length))])), (ca, .inl (cC, 1500, .inl (fun jj => nI (u48 jj))))] H := hP
          have hD : va_D A [(h, .inr (2, [.ref ca, .int (nI ((Tc ++ ([(48 + x / 10 ^ j % 10)])).length))])), (ca, .inl (cC, 1500, .inl (fun jj => nI (u48 jj))))] := hD
          obtain ⟨T48, hT48⟩ : ∃ y9, y9 = Tc ++ ([(48 + x / 10 ^ j % 10)]) := ⟨_, rfl⟩
          rw [← hT48] at hP hD w48
          have lT48 : T48.length ≤ Tc.length + 1 := by rw [hT48, List.length_append]; simp
          have hP : va_P D vwCl [(h, .inr (2, [.ref ca, .int (nI (T48.length))])), (ca, .inl (cC, 1500, .inl (fun jj => nI (u48 jj))))] H := hP
          have hD : va_D A [(h, .inr (2, [.ref ca, .int (nI (T48.length))])), (ca, .inl (cC, 1500, .inl (fun jj => nI (u48 jj))))] := hD
          refine lv_iload_n hx hb dX2_putNumber_51 rfl (lv_at hl 4 rfl) ?_
          refine lv_bipush (v := nI 10) hx hb dX2_putNumber_52 (by decide) ?_
          refine lv_idiv hx hb dX2_putNumber_54 (nI_ne0 (by omega) (by omega)) ?_
          refine zz_top (y := nI ((10 ^ j) / 10)) (pk_div (by omega) (by omega) (by omega)) ?_
          refine lv_istore_n (lv' := [(3, .int (nI ((10 ^ j) / 10))), (2, .int (nI 1)), (4, .int (nI ((x / (10 ^ j)) % 10))), (0, .ref h), (1, .int (nI x))]) hx hb dX2_putNumber_55 rfl hl (by decide) rfl (fun ls hl => ?_)
          refine lv_goto (tgt := 5) hx hb dX2_putNumber_56 (by decide) ?_
          have hl : lv_has ls 5 [(3, .int (nI (zpw j))), (2, .int (nI 1)), (4, .int (nI ((x / (10 ^ j)) % 10))), (0, .ref h), (1, .int (nI x))] := by rw [← zpw_div]; exact hl
          have hl : lv_has ls 5 [(3, .int (nI (zpw j))), (2, .int (zb (true = true))), (4, .int (nI ((x / (10 ^ j)) % 10))), (0, .ref h), (1, .int (nI x))] := by rw [zb_t rfl]; exact hl
          exact ih j true T48 u48 (by omega) (by omega) (by rw [hT48, ← hS9, zdg_yes hyes, List.append_assoc]; rfl) w48 (by omega) _ _ hP hD hS ls (lv_sub hl [3, 4, 1, 0] rfl)
        · skip
          refine lv_iload hx hb dX2_putNumber_21 (lv_at hl 0 rfl) ?_
          refine zz_gt0 (tgt := 31) hx hb dX2_putNumber_23 (by decide) (by omega) (fun c23 => ?_) (fun c23 => ?_)
          · skip
            have hyes : be = true ∨ 0 < x / 10 ^ j % 10 ∨ j = 0 := by first | exact Or.inl c18 | exact Or.inr (Or.inl c23) | exact Or.inr (Or.inr (p5.mp c28))
            refine lv_iconst (v := nI 1) hx hb dX2_putNumber_31 (by decide) ?_
            refine lv_goto (tgt := 36) hx hb dX2_putNumber_32 (by decide) ?_
            refine lv_istore_n (lv' := [(2, .int (nI 1)), (4, .int (nI ((x / (10 ^ j)) % 10))), (0, .ref h), (1, .int (nI x)), (3, .int (nI (10 ^ j)))]) hx hb dX2_putNumber_36 rfl hl (by decide) rfl (fun ls hl => ?_)
            refine lv_iload_n hx hb dX2_putNumber_37 rfl (lv_at hl 0 rfl) ?_
            refine lv_if_eq (tgt := 51) hx hb dX2_putNumber_38 (by decide) (fun h9 => absurd h9 (by decide)) (fun _ => ?_)
            refine lv_aload_n hx hb dX2_putNumber_41 rfl (lv_at hl 2 rfl) ?_
            refine lv_bipush (v := nI 48) hx hb dX2_putNumber_42 (by decide) ?_
            refine lv_iload hx hb dX2_putNumber_44 (lv_at hl 1 rfl) ?_
            refine lv_iadd hx hb dX2_putNumber_46 ?_
            refine zz_top (y := nI (48 + ((x / (10 ^ j)) % 10))) (zadd (by omega)) ?_
            refine lv_i2c (v := nI (48 + ((x / (10 ^ j)) % 10))) hx hb dX2_putNumber_47 (zchar (by omega)) ?_
            refine zCv (is := [0, 1]) (wf := (fun (uu : Nat → Nat) => ([(h, .inr (2, [.ref ca, .int (nI ((Tc ++ ([(48 + x / 10 ^ j % 10)])).length))])), (ca, .inl (cC, 1500, .inl (fun jj => nI (uu jj))))] : va_W))) (va_runV (As := [.int (nI (48 + ((x / (10 ^ j)) % 10)))]) (rest := []) ⟨hx, hb, hml, hown, hts⟩ (k_tput l D cI cC  h ca (48 + x / 10 ^ j % 10) Tc b (by omega) (by omega) hac H.size) (cwV 1 hts (zgood mw_361 mw_362 mw_363 mw_31 mw_364) rfl rfl rfl (by decide +kernel) ⟨Nat.le_of_ble_eq_true rfl, Nat.le_of_ble_eq_true rfl⟩) ⟨zBlind zE0_ok, va_recv hK hP (ci := 2) (q0 := 0) rfl rfl, zAt (av := [.ref h, .int (nI (48 + ((x / (10 ^ j)) % 10)))]) zE0_ok hP hD hK hS hA trivial [0, 1] rfl (by decide)⟩ rfl rfl hl.1 rfl (lv_room (Nat.le_of_ble_eq_true rfl)) dX2_putNumber_48 ⟨Nat.zero_le _, Nat.zero_le _⟩) hP hD hS hA rfl (fun _ => rfl) (fun u48 H locs w48 hP hD hS => ?_)
            have hP : va_P D vwCl [(h, .inr (2, [.ref ca, .int (nI ((Tc ++ ([(48 + x / 10 ^ j % 10)])).length))])), (ca, .inl (cC, 1500, .inl (fun jj => nI (u48 jj))))] H := hP
            have hD : va_D A [(h, .inr (2, [.ref ca, .int (nI ((Tc ++ ([(48 + x / 10 ^ j % 10)])).length))])), (ca, .inl (cC, 1500, .inl (fun jj => nI (u48 jj))))] := hD
            obtain ⟨T48, hT48⟩ : ∃ y9, y9 = Tc ++ ([(48 + x / 10 ^ j % 10)]) := ⟨_, rfl⟩
            rw [← hT48] at hP hD w48
            have lT48 : T48.length ≤ Tc.length + 1 := by rw [hT48, List.length_append]; simp
            have hP : va_P D vwCl [(h, .inr (2, [.ref ca, .int (nI (T48.length))])), (ca, .inl (cC, 1500, .inl (fun jj => nI (u48 jj))))] H := hP
            have hD : va_D A [(h, .inr (2, [.ref ca, .int (nI (T48.length))])), (ca, .inl (cC, 1500, .inl (fun jj => nI (u48 jj))))] := hD
            refine lv_iload_n hx hb dX2_putNumber_51 rfl (lv_at hl 4 rfl) ?_
            refine lv_bipush (v := nI 10) hx hb dX2_putNumber_52 (by decide) ?_
            refine lv_idiv hx hb dX2_putNumber_54 (nI_ne0 (by omega) (by omega)) ?_
            refine zz_top (y := nI ((10 ^ j) / 10)) (pk_div (by omega) (by omega) (by omega)) ?_
            refine lv_istore_n (lv' := [(3, .int (nI ((10 ^ j) / 10))), (2, .int (nI 1)), (4, .int (nI ((x / (10 ^ j)) % 10))), (0, .ref h), (1, .int (nI x))]) hx hb dX2_putNumber_55 rfl hl (by decide) rfl (fun ls hl => ?_)
            refine lv_goto (tgt := 5) hx hb dX2_putNumber_56 (by decide) ?_
            have hl : lv_has ls 5 [(3, .int (nI (zpw j))), (2, .int (nI 1)), (4, .int (nI ((x / (10 ^ j)) % 10))), (0, .ref h), (1, .int (nI x))] := by rw [← zpw_div]; exact hl
            have hl : lv_has ls 5 [(3, .int (nI (zpw j))), (2, .int (zb (true = true))), (4, .int (nI ((x / (10 ^ j)) % 10))), (0, .ref h), (1, .int (nI x))] := by rw [zb_t rfl]; exact hl
            exact ih j true T48 u48 (by omega) (by omega) (by rw [hT48, ← hS9, zdg_yes hyes, List.append_assoc]; rfl) w48 (by omega) _ _ hP hD hS ls (lv_sub hl [3, 4, 1, 0] rfl)
          · skip
            refine lv_iload_n hx hb dX2_putNumber_26 rfl (lv_at hl 4 rfl) ?_
            refine lv_iconst (v := nI 1) hx hb dX2_putNumber_27 (by decide) ?_
            refine zz_ne (tgt := 35) hx hb dX2_putNumber_28 (by decide) (by omega) (by omega) (fun c28 => ?_) (fun c28 => ?_)
            · skip
              have hno : ¬ (be = true ∨ 0 < x / 10 ^ j % 10 ∨ j = 0) := fun q => by rcases q with q | q | q; exact c18 q; omega; exact c28 (p5.mpr q)
              refine lv_iconst (v := nI 0) hx hb dX2_putNumber_35 (by decide) ?_
              refine lv_istore_n (lv' := [(2, .int (nI 0)), (4, .int (nI ((x / (10 ^ j)) % 10))), (0, .ref h), (1, .int (nI x)), (3, .int (nI (10 ^ j)))]) hx hb dX2_putNumber_36 rfl hl (by decide) rfl (fun ls hl => ?_)
              refine lv_iload_n hx hb dX2_putNumber_37 rfl (lv_at hl 0 rfl) ?_
              refine lv_if_eq (tgt := 51) hx hb dX2_putNumber_38 (by decide) (fun _ => ?_) (fun h9 => absurd (by decide) h9)
              refine lv_iload_n hx hb dX2_putNumber_51 rfl (lv_at hl 4 rfl) ?_
              refine lv_bipush (v := nI 10) hx hb dX2_putNumber_52 (by decide) ?_
              refine lv_idiv hx hb dX2_putNumber_54 (nI_ne0 (by omega) (by omega)) ?_
              refine zz_top (y := nI ((10 ^ j) / 10)) (pk_div (by omega) (by omega) (by omega)) ?_
              refine lv_istore_n (lv' := [(3, .int (nI ((10 ^ j) / 10))), (2, .int (nI 0)), (4, .int (nI ((x / (10 ^ j)) % 10))), (0, .ref h), (1, .int (nI x))]) hx hb dX2_putNumber_55 rfl hl (by decide) rfl (fun ls hl => ?_)
              refine lv_goto (tgt := 5) hx hb dX2_putNumber_56 (by decide) ?_
              have hl : lv_has ls 5 [(3, .int (nI (zpw j))), (2, .int (nI 0)), (4, .int (nI ((x / (10 ^ j)) % 10))), (0, .ref h), (1, .int (nI x))] := by rw [← zpw_div]; exact hl
              have hl : lv_has ls 5 [(3, .int (nI (zpw j))), (2, .int (zb (false = true))), (4, .int (nI ((x / (10 ^ j)) % 10))), (0, .ref h), (1, .int (nI x))] := by rw [zb_f (by decide)]; exact hl
              exact ih j false Tc b (by omega) (by omega) (by rw [← hS9, zdg_no hno]) hac (by omega) _ _ hP hD hS ls (lv_sub hl [3, 4, 1, 0] rfl)
            · skip
              have hyes : be = true ∨ 0 < x / 10 ^ j % 10 ∨ j = 0 := by first | exact Or.inl c18 | exact Or.inr (Or.inl c23) | exact Or.inr (Or.inr (p5.mp c28))
              refine lv_iconst (v := nI 1) hx hb dX2_putNumber_31 (by decide) ?_
              refine lv_goto (tgt := 36) hx hb dX2_putNumber_32 (by decide) ?_
              refine lv_istore_n (lv' := [(2, .int (nI 1)), (4, .int (nI ((x / (10 ^ j)) % 10))), (0, .ref h), (1, .int (nI x)), (3, .int (nI (10 ^ j)))]) hx hb dX2_putNumber_36 rfl hl (by decide) rfl (fun ls hl => ?_)
              refine lv_iload_n hx hb dX2_putNumber_37 rfl (lv_at hl 0 rfl) ?_
              refine lv_if_eq (tgt := 51) hx hb dX2_putNumber_38 (by decide) (fun h9 => absurd h9 (by decide)) (fun _ => ?_)
              refine lv_aload_n hx hb dX2_putNumber_41 rfl (lv_at hl 2 rfl) ?_
              refine lv_bipush (v := nI 48) hx hb dX2_putNumber_42 (by decide) ?_
              refine lv_iload hx hb dX2_putNumber_44 (lv_at hl 1 rfl) ?_
              refine lv_iadd hx hb dX2_putNumber_46 ?_
              refine zz_top (y := nI (48 + ((x / (10 ^ j)) % 10))) (zadd (by omega)) ?_
              refine lv_i2c (v := nI (48 + ((x / (10 ^ j)) % 10))) hx hb dX2_putNumber_47 (zchar (by omega)) ?_
              refine zCv (is := [0, 1]) (wf := (fun (uu : Nat → Nat) => ([(h, .inr (2, [.ref ca, .int (nI ((Tc ++ ([(48 + x / 10 ^ j % 10)])).length))])), (ca, .inl (cC, 1500, .inl (fun jj => nI (uu jj))))] : va_W))) (va_runV (As := [.int (nI (48 + ((x / (10 ^ j)) % 10)))]) (rest := []) ⟨hx, hb, hml, hown, hts⟩ (k_tput l D cI cC  h ca (48 + x / 10 ^ j % 10) Tc b (by omega) (by omega) hac H.size) (cwV 1 hts (zgood mw_361 mw_362 mw_363 mw_31 mw_364) rfl rfl rfl (by decide +kernel) ⟨Nat.le_of_ble_eq_true rfl, Nat.le_of_ble_eq_true rfl⟩) ⟨zBlind zE0_ok, va_recv hK hP (ci := 2) (q0 := 0) rfl rfl, zAt (av := [.ref h, .int (nI (48 + ((x / (10 ^ j)) % 10)))]) zE0_ok hP hD hK hS hA trivial [0, 1] rfl (by decide)⟩ rfl rfl hl.1 rfl (lv_room (Nat.le_of_ble_eq_true rfl)) dX2_putNumber_48 ⟨Nat.zero_le _, Nat.zero_le _⟩) hP hD hS hA rfl (fun _ => rfl) (fun u48 H locs w48 hP hD hS => ?_)
              have hP : va_P D vwCl [(h, .inr (2, [.ref ca, .int (nI ((Tc ++ ([(48 + x / 10 ^ j % 10)])).length))])), (ca, .inl (cC, 1500, .inl (fun jj => nI (u48 jj))))] H := hP
              have hD : va_D A [(h, .inr (2, [.ref ca, .int (nI ((Tc ++ ([(48 + x / 10 ^ j % 10)])).length))])), (ca, .inl (cC, 1500, .inl (fun jj => nI (u48 jj))))] := hD
              obtain ⟨T48, hT48⟩ : ∃ y9, y9 = Tc ++ ([(48 + x / 10 ^ j % 10)]) := ⟨_, rfl⟩
              rw [← hT48] at hP hD w48
              have lT48 : T48.length ≤ Tc.length + 1 := by rw [hT48, List.length_append]; simp
              have hP : va_P D vwCl [(h, .inr (2, [.ref ca, .int (nI (T48.length))])), (ca, .inl (cC, 1500, .inl (fun jj => nI (u48 jj))))] H := hP
              have hD : va_D A [(h, .inr (2, [.ref ca, .int (nI (T48.length))])), (ca, .inl (cC, 1500, .inl (fun jj => nI (u48 jj))))] := hD
              refine lv_iload_n hx hb dX2_putNumber_51 rfl (lv_at hl 4 rfl) ?_
              refine lv_bipush (v := nI 10) hx hb dX2_putNumber_52 (by decide) ?_
              refine lv_idiv hx hb dX2_putNumber_54 (nI_ne0 (by omega) (by omega)) ?_
              refine zz_top (y := nI ((10 ^ j) / 10)) (pk_div (by omega) (by omega) (by omega)) ?_
              refine lv_istore_n (lv' := [(3, .int (nI ((10 ^ j) / 10))), (2, .int (nI 1)), (4, .int (nI ((x / (10 ^ j)) % 10))), (0, .ref h), (1, .int (nI x))]) hx hb dX2_putNumber_55 rfl hl (by decide) rfl (fun ls hl => ?_)
              refine lv_goto (tgt := 5) hx hb dX2_putNumber_56 (by decide) ?_
              have hl : lv_has ls 5 [(3, .int (nI (zpw j))), (2, .int (nI 1)), (4, .int (nI ((x / (10 ^ j)) % 10))), (0, .ref h), (1, .int (nI x))] := by rw [← zpw_div]; exact hl
              have hl : lv_has ls 5 [(3, .int (nI (zpw j))), (2, .int (zb (true = true))), (4, .int (nI ((x / (10 ^ j)) % 10))), (0, .ref h), (1, .int (nI x))] := by rw [zb_t rfl]; exact hl
              exact ih j true T48 u48 (by omega) (by omega) (by rw [hT48, ← hS9, zdg_yes hyes, List.append_assoc]; rfl) w48 (by omega) _ _ hP hD hS ls (lv_sub hl [3, 4, 1, 0] rfl)
set_option maxHeartbeats 4000000 in
set_option maxRecDepth 100000 in
theorem k_tputNumber (l : Launch) (D : va_G) (cI cC : ClassId)  (h ca : Nat) (x : Nat) (T : List Nat) (a : Nat → Nat) (hxx : x ≤ 100000) (hT : T.length + 10 ≤ 2000000) (ha : zAG a T) (sz : Nat) : Met l yX2_putNumber wsX2_putNumber ({ frames := 1, cells := 0, slots := 0, locals := 21 } : Room) (zPre zE0 D vwCl [(cI, .int), (cC, .char)] [.ref h, .int (nI x)] [(h, .inr (2, [.ref ca, .int (nI (T.length))])), (ca, .inl (cC, 1500, .inl (fun jj => nI (a jj))))] sz) (va_Qv (fun (uu : Nat → Nat) => zAG uu (T ++ (znum x))) (fun (uu : Nat → Nat) t9 => va_P D vwCl ([(h, .inr (2, [.ref ca, .int (nI ((T ++ (znum x)).length))])), (ca, .inl (cC, 1500, .inl (fun jj => nI (uu jj))))]) t9.heap) (va_A [(h, .inr (2, [.ref ca, .int (nI (T.length))])), (ca, .inl (cC, 1500, .inl (fun jj => nI (a jj))))] sz)) 0 0 (va_A [(h, .inr (2, [.ref ca, .int (nI (T.length))])), (ca, .inl (cC, 1500, .inl (fun jj => nI (a jj))))] sz) := by
  refine zMet (cc := cX2_putNumber) (maxL := 5) (ret := none) (Qc := fun A => (va_Qv (fun (uu : Nat → Nat) => zAG uu (T ++ (znum x))) (fun (uu : Nat → Nat) t9 => va_P D vwCl ([(h, .inr (2, [.ref ca, .int (nI ((T ++ (znum x)).length))])), (ca, .inl (cC, 1500, .inl (fun jj => nI (uu jj))))]) t9.heap) A)) (by decide) rfl (Nat.le_of_ble_eq_true rfl) ?_
  intro pr en s0 mi bl me co A hC hA hK hE H locs hP hD hS ls hl
  obtain ⟨hx, hb, hr, hml, hown, hts, hlocks, hin⟩ := id hC
  have hl : lv_has ls 5 [(0, .ref h), (1, .int (nI x))] := hl
  refine lv_iconst (v := nI 0) hx hb dX2_putNumber_0 (by decide) ?_
  refine lv_istore_n (lv' := [(2, .int (nI 0)), (0, .ref h), (1, .int (nI x))]) hx hb dX2_putNumber_1 rfl hl (by decide) rfl (fun ls hl => ?_)
  refine lv_ldc (v := nI 1000000000) hx hb hown (hts _ (List.mem_cons_of_mem _ mw_369)) dX2_putNumber_2 ?_
  refine lv_istore_n (lv' := [(3, .int (nI 1000000000)), (2, .int (nI 0)), (0, .ref h), (1, .int (nI x))]) hx hb dX2_putNumber_4 rfl hl (by decide) rfl (fun ls hl => ?_)
  have hl : lv_has ls 5 [(3, .int (nI (zpw 10))), (2, .int (nI 0)), (0, .ref h), (1, .int (nI x))] := by skip; exact hl
  have hl : lv_has ls 5 [(3, .int (nI (zpw 10))), (2, .int (zb (false = true))), (0, .ref h), (1, .int (nI x))] := by skip; exact hl
  exact k_tputNumber_L5 l D cI cC  h ca x T a hxx hT ha hC hA hK hE _ 10 false T a (Nat.lt_succ_self _) (Nat.le_refl _) rfl ha (by omega) _ _ hP hD hS ls (lv_sub hl [2, 3, 1, 0] rfl)
set_option maxHeartbeats 4000000 in
set_option maxRecDepth 100000 in
theorem k_putBases_L2 {pr : Program} {en : Env} {s0 : State} {mi : MethodId} {bl : List Frame} {me : Method} {co : Code} {A : Nat → Prop} (l : Launch) (D : va_G) (cI cC : ClassId) (adK adV : Nat → Nat) (h ca : Nat) (o oa w : Nat) (q : Nat → Nat) (T : List Nat) (a : Nat → Nat) (hw : w ≤ 24) (hr3 : ∀ i, i < w → q i ≤ 3) (hT : T.length + 24 ≤ 2000000) (ha : zAG a T) (hC : zK pr s0 mi ([.ref h, .ref o] : List Value).toArray me co cX2_putBases 3 none yX2_putBases wsX2_putBases) (hA : ∀ q, s0.heap.size ≤ q → A q) (hK : va_K D vwCl [(cI, .int), (cC, .char)] s0) (hE : (zEs adK adV) A s0 s0.heap) :
    ∀ (N : Nat) (k : Nat) (b : Nat → Nat), w - k < N → (k ≤ w) → (zAG b (T ++ zbs q k)) → ∀ (H : Heap) (locs : List Loc), va_P D vwCl [(h, .inr (2, [.ref ca, .int (nI ((T ++ zbs q k).length))])), (ca, .inl (cC, 1500, .inl (fun jj => nI (b jj)))), (o, .inr (0, [.ref oa, .int (nI w)])), (oa, .inl (cI, 24, .inl (fun jj => nI (q jj))))] H → va_D A [(h, .inr (2, [.ref ca, .int (nI ((T ++ zbs q k).length))])), (ca, .inl (cC, 1500, .inl (fun jj => nI (b jj)))), (o, .inr (0, [.ref oa, .int (nI w)])), (oa, .inl (cI, 24, .inl (fun jj => nI (q jj))))] → va_S A s0.heap H locs → ∀ ls : Array Slot, lv_has ls 3 [(0, .ref h), (1, .ref o), (2, .int (nI k))] → W pr l en ({ frames := 4, cells := 0, slots := 0, locals := 85 } : Room) s0 mi ([.ref h, .ref o] : List Value).toArray bl me co H locs 0 0 (MQ bl (va_Qv (fun (uu : Nat → Nat) => zAG uu (T ++ (zbs q w))) (fun (uu : Nat → Nat) t9 => va_P D vwCl ([(h, .inr (2, [.ref ca, .int (nI ((T ++ (zbs q w)).length))])), (ca, .inl (cC, 1500, .inl (fun jj => nI (uu jj)))), (o, .inr (0, [.ref oa, .int (nI w)])), (oa, .inl (cI, 24, .inl (fun jj => nI (q jj))))]) t9.heap) A) ([.ref h, .ref o] : List Value).toArray s0 0 0 A) (F0 mi 2 ls []) := by
  obtain ⟨hx, hb, hr, hml, hown, hts, hlocks, hin⟩ := id hC
  intro N
  induction N with
  | zero =>
    intro k b hmea
    omega
  | succ N ih =>
    intro k b hmea hk hac H locs hP hD hS ls hl
    refine lv_iload_n hx hb dX2_putBases_2 rfl (lv_at hl 2 rfl) ?_
    refine lv_aload_n hx hb dX2_putBases_3 rfl (lv_at hl 1 rfl) ?_
    refine va_getN (D := D) (ci := 0) (v := .int (nI w)) (C := RX0) (T := TX0) (N := 2) hx hb hts (fun w h => List.mem_cons_of_mem _ (inUX0 w h)) hown hK hP 2 rfl rfl 1 (by decide) (va_Nw.use rfl (hE.1.1 ("StrandMapper$MapText", 34, "StrandMapper$Bases", "used", "I", "StrandMapper") (by decide +kernel))) (fun _ h9 => h9) rfl dX2_putBases_4 ?_
    refine zz_ge (tgt := 31) hx hb dX2_putBases_7 (by decide) (by omega) (by omega) (fun c7 => ?_) (fun c7 => ?_)
    · skip
      rw [show k = w by omega] at hP hD hac
      have hP : va_P D vwCl [(h, .inr (2, [.ref ca, .int (nI ((T ++ zbs q w).length))])), (ca, .inl (cC, 1500, .inl (fun jj => nI (b jj)))), (o, .inr (0, [.ref oa, .int (nI w)])), (oa, .inl (cI, 24, .inl (fun jj => nI (q jj))))] H := hP
      have hD : va_D A [(h, .inr (2, [.ref ca, .int (nI ((T ++ zbs q w).length))])), (ca, .inl (cC, 1500, .inl (fun jj => nI (b jj)))), (o, .inr (0, [.ref oa, .int (nI w)])), (oa, .inl (cI, 24, .inl (fun jj => nI (q jj))))] := hD
      exact zVret hC hS b hac hP dX2_putBases_31
    · skip
      have l1 : (T ++ zbs q k).length = T.length + k := by rw [List.length_append, zbs_len]
      have l2 := hr3 k (by omega)
      have l3 : q k < lenJS.getD 0 0 := Nat.lt_of_lt_of_le (show q k < 5 by omega) (by decide)
      have l4 := zs_lt (i := 0) (by decide) l3
      refine lv_aload_n hx hb dX2_putBases_10 rfl (lv_at hl 0 rfl) ?_
      refine va_ldcS hx hb hown (hE.2.2.2.1 ("StrandMapper$MapText", 39, "ACGTN", 0) (by decide +kernel)) dX2_putBases_11 ?_
      refine lv_aload_n hx hb dX2_putBases_13 rfl (lv_at hl 1 rfl) ?_
      refine va_getN (D := D) (ci := 0) (v := .ref oa) (C := RX0) (T := TX0) (N := 2) hx hb hts (fun w h => List.mem_cons_of_mem _ (inUX0 w h)) hown hK hP 2 rfl rfl 0 (by decide) (va_Nw.use rfl (hE.1.1 ("StrandMapper$MapText", 41, "StrandMapper$Bases", "symbols", "[I", "StrandMapper") (by decide +kernel))) (fun _ h9 => h9) rfl dX2_putBases_14 ?_
      refine lv_iload_n hx hb dX2_putBases_17 rfl (lv_at hl 2 rfl) ?_
      refine zz_iald (k := k) (f := q) hx hb hK hP 3 0 rfl rfl (by omega) (by omega) dX2_putBases_18 ?_
      refine zCi (is := []) (wf := (fun (uu : Unit) => ([] : va_W))) (va_runV (As := [.int (nI (q k))]) (rest := [.ref h]) ⟨hx, hb, hml, hown, hts⟩ (s_charAt l D cI cC adK adV 0 (q k) (by decide) l3 H.size) (cwV 1 hts (zgood mw_323 mw_324 mw_325 mw_33 mw_326) rfl rfl rfl (by decide +kernel) ⟨Nat.le_of_ble_eq_true rfl, Nat.le_of_ble_eq_true rfl⟩) ⟨zBlind (zEs_ok adK adV), vk_recv hE.2.1 (by decide) hS, zAt (av := [.ref (adK 0), .int (nI (q k))]) (zEs_ok adK adV) hP hD hK hS hA hE [] rfl (by decide)⟩ rfl rfl hl.1 rfl (lv_room (Nat.le_of_ble_eq_true rfl)) dX2_putBases_19 ⟨Nat.zero_le _, Nat.zero_le _⟩) hP hD hS hA rfl (fun _ => rfl) (fun r19 u19 H locs w19 hP hD hS => ?_)
      obtain ⟨rfl, w19⟩ := w19
      have hP : va_P D vwCl [(h, .inr (2, [.ref ca, .int (nI ((T ++ zbs q k).length))])), (ca, .inl (cC, 1500, .inl (fun jj => nI (b jj)))), (o, .inr (0, [.ref oa, .int (nI w)])), (oa, .inl (cI, 24, .inl (fun jj => nI (q jj))))] H := hP
      have hD : va_D A [(h, .inr (2, [.ref ca, .int (nI ((T ++ zbs q k).length))])), (ca, .inl (cC, 1500, .inl (fun jj => nI (b jj)))), (o, .inr (0, [.ref oa, .int (nI w)])), (oa, .inl (cI, 24, .inl (fun jj => nI (q jj))))] := hD
      refine zCv (is := [0, 1]) (wf := (fun (uu : Nat → Nat) => ([(h, .inr (2, [.ref ca, .int (nI (((T ++ zbs q k) ++ ([(ztc 0 (q k))])).length))])), (ca, .inl (cC, 1500, .inl (fun jj => nI (uu jj))))] : va_W))) (va_runV (As := [.int (nI (ztc 0 (q k)))]) (rest := []) ⟨hx, hb, hml, hown, hts⟩ (k_tput l D cI cC  h ca (ztc 0 (q k)) (T ++ zbs q k) b (by omega) (by omega) hac H.size) (cwV 1 hts (zgood mw_361 mw_362 mw_363 mw_31 mw_364) rfl rfl rfl (by decide +kernel) ⟨Nat.le_of_ble_eq_true rfl, Nat.le_of_ble_eq_true rfl⟩) ⟨zBlind zE0_ok, va_recv hK hP (ci := 2) (q0 := 0) rfl rfl, zAt (av := [.ref h, .int (nI (ztc 0 (q k)))]) zE0_ok hP hD hK hS hA trivial [0, 1] rfl (by decide)⟩ rfl rfl hl.1 rfl (lv_room (Nat.le_of_ble_eq_true rfl)) dX2_putBases_22 ⟨Nat.zero_le _, Nat.zero_le _⟩) hP hD hS hA rfl (fun _ => rfl) (fun u22 H locs w22 hP hD hS => ?_)
      have hP : va_P D vwCl [(h, .inr (2, [.ref ca, .int (nI (((T ++ zbs q k) ++ ([(ztc 0 (q k))])).length))])), (ca, .inl (cC, 1500, .inl (fun jj => nI (u22 jj)))), (o, .inr (0, [.ref oa, .int (nI w)])), (oa, .inl (cI, 24, .inl (fun jj => nI (q jj))))] H := hP
      have hD : va_D A [(h, .inr (2, [.ref ca, .int (nI (((T ++ zbs q k) ++ ([(ztc 0 (q k))])).length))])), (ca, .inl (cC, 1500, .inl (fun jj => nI (u22 jj)))), (o, .inr (0, [.ref oa, .int (nI w)])), (oa, .inl (cI, 24, .inl (fun jj => nI (q jj))))] := hD
      obtain ⟨T22, hT22⟩ : ∃ y9, y9 = (T ++ zbs q k) ++ ([(ztc 0 (q k))]) := ⟨_, rfl⟩
      rw [← hT22] at hP hD w22
      have lT22 : T22.length ≤ (T ++ zbs q k).length + 1 := by rw [hT22, List.length_append]; simp
      have hP : va_P D vwCl [(h, .inr (2, [.ref ca, .int (nI (T22.length))])), (ca, .inl (cC, 1500, .inl (fun jj => nI (u22 jj)))), (o, .inr (0, [.ref oa, .int (nI w)])), (oa, .inl (cI, 24, .inl (fun jj => nI (q jj))))] H := hP
      have hD : va_D A [(h, .inr (2, [.ref ca, .int (nI (T22.length))])), (ca, .inl (cC, 1500, .inl (fun jj => nI (u22 jj)))), (o, .inr (0, [.ref oa, .int (nI w)])), (oa, .inl (cI, 24, .inl (fun jj => nI (q jj))))] := hD
      refine lv_iinc (v := nI (k + 1)) (lv' := [(2, .int (nI (k + 1))), (0, .ref h), (1, .ref o)]) hx hb dX2_putBases_25 hl (k := 2) rfl (zincE (by omega)) (by decide) rfl (fun ls hl => ?_)
      refine lv_goto (tgt := 2) hx hb dX2_putBases_28 (by decide) ?_
      have eT : T22 = T ++ zbs q (k + 1) := by rw [hT22, zs_let (q := q k) (by omega), List.append_assoc]; rfl
      rw [eT] at hP hD w22
      have hP : va_P D vwCl [(h, .inr (2, [.ref ca, .int (nI ((T ++ zbs q (k + 1)).length))])), (ca, .inl (cC, 1500, .inl (fun jj => nI (u22 jj)))), (o, .inr (0, [.ref oa, .int (nI w)])), (oa, .inl (cI, 24, .inl (fun jj => nI (q jj))))] H := hP
      have hD : va_D A [(h, .inr (2, [.ref ca, .int (nI ((T ++ zbs q (k + 1)).length))])), (ca, .inl (cC, 1500, .inl (fun jj => nI (u22 jj)))), (o, .inr (0, [.ref oa, .int (nI w)])), (oa, .inl (cI, 24, .inl (fun jj => nI (q jj))))] := hD
      exact ih (k + 1) u22 (by omega) (by omega) w22 _ _ hP hD hS ls (lv_sub hl [1, 2, 0] rfl)
set_option maxHeartbeats 4000000 in
set_option maxRecDepth 100000 in
theorem k_putBases (l : Launch) (D : va_G) (cI cC : ClassId) (adK adV : Nat → Nat) (h ca : Nat) (o oa w : Nat) (q : Nat → Nat) (T : List Nat) (a : Nat → Nat) (hw : w ≤ 24) (hr3 : ∀ i, i < w → q i ≤ 3) (hT : T.length + 24 ≤ 2000000) (ha : zAG a T) (sz : Nat) : Met l yX2_putBases wsX2_putBases ({ frames := 4, cells := 0, slots := 0, locals := 85 } : Room) (zPre (zEs adK adV) D vwCl [(cI, .int), (cC, .char)] [.ref h, .ref o] [(h, .inr (2, [.ref ca, .int (nI (T.length))])), (ca, .inl (cC, 1500, .inl (fun jj => nI (a jj)))), (o, .inr (0, [.ref oa, .int (nI w)])), (oa, .inl (cI, 24, .inl (fun jj => nI (q jj))))] sz) (va_Qv (fun (uu : Nat → Nat) => zAG uu (T ++ (zbs q w))) (fun (uu : Nat → Nat) t9 => va_P D vwCl ([(h, .inr (2, [.ref ca, .int (nI ((T ++ (zbs q w)).length))])), (ca, .inl (cC, 1500, .inl (fun jj => nI (uu jj)))), (o, .inr (0, [.ref oa, .int (nI w)])), (oa, .inl (cI, 24, .inl (fun jj => nI (q jj))))]) t9.heap) (va_A [(h, .inr (2, [.ref ca, .int (nI (T.length))])), (ca, .inl (cC, 1500, .inl (fun jj => nI (a jj)))), (o, .inr (0, [.ref oa, .int (nI w)])), (oa, .inl (cI, 24, .inl (fun jj => nI (q jj))))] sz)) 0 0 (va_A [(h, .inr (2, [.ref ca, .int (nI (T.length))])), (ca, .inl (cC, 1500, .inl (fun jj => nI (a jj)))), (o, .inr (0, [.ref oa, .int (nI w)])), (oa, .inl (cI, 24, .inl (fun jj => nI (q jj))))] sz) := by
  refine zMet (cc := cX2_putBases) (maxL := 3) (ret := none) (Qc := fun A => (va_Qv (fun (uu : Nat → Nat) => zAG uu (T ++ (zbs q w))) (fun (uu : Nat → Nat) t9 => va_P D vwCl ([(h, .inr (2, [.ref ca, .int (nI ((T ++ (zbs q w)).length))])), (ca, .inl (cC, 1500, .inl (fun jj => nI (uu jj)))), (o, .inr (0, [.ref oa, .int (nI w)])), (oa, .inl (cI, 24, .inl (fun jj => nI (q jj))))]) t9.heap) A)) (by decide) rfl (Nat.le_of_ble_eq_true rfl) ?_
  intro pr en s0 mi bl me co A hC hA hK hE H locs hP hD hS ls hl
  obtain ⟨hx, hb, hr, hml, hown, hts, hlocks, hin⟩ := id hC
  have hl : lv_has ls 3 [(0, .ref h), (1, .ref o)] := hl
  refine lv_iconst (v := nI 0) hx hb dX2_putBases_0 (by decide) ?_
  refine lv_istore_n (lv' := [(2, .int (nI 0)), (0, .ref h), (1, .ref o)]) hx hb dX2_putBases_1 rfl hl (by decide) rfl (fun ls hl => ?_)
  have hP : va_P D vwCl [(h, .inr (2, [.ref ca, .int (nI ((T ++ zbs q 0).length))])), (ca, .inl (cC, 1500, .inl (fun jj => nI (a jj)))), (o, .inr (0, [.ref oa, .int (nI w)])), (oa, .inl (cI, 24, .inl (fun jj => nI (q jj))))] H := by rw [show zbs q 0 = [] from rfl, List.append_nil]; exact hP
  have hD : va_D A [(h, .inr (2, [.ref ca, .int (nI ((T ++ zbs q 0).length))])), (ca, .inl (cC, 1500, .inl (fun jj => nI (a jj)))), (o, .inr (0, [.ref oa, .int (nI w)])), (oa, .inl (cI, 24, .inl (fun jj => nI (q jj))))] := by rw [show zbs q 0 = [] from rfl, List.append_nil]; exact hD
  exact k_putBases_L2 l D cI cC adK adV h ca o oa w q T a hw hr3 hT ha hC hA hK hE _ 0 a (Nat.lt_succ_self _) (Nat.zero_le _) (by rw [show zbs q 0 = [] from rfl, List.append_nil]; exact ha) _ _ hP hD hS ls (lv_sub hl [1, 2, 0] rfl)
set_option maxHeartbeats 4000000 in
set_option maxRecDepth 100000 in
theorem k_tputDiff_L6 {pr : Program} {en : Env} {s0 : State} {mi : MethodId} {bl : List Frame} {me : Method} {co : Code} {A : Nat → Prop} (l : Launch) (D : va_G) (cI cC : ClassId) (adK adV : Nat → Nat) (h ca : Nat) (G ga n o oa w p : Nat) (g q : Nat → Nat) (T : List Nat) (a : Nat → Nat) (hn : n ≤ 96) (hg : ∀ i, g i ≤ 4) (hw : w ≤ 24) (hr3 : ∀ i, i < w → q i ≤ 3) (hp : p + w ≤ n) (hT : T.length + 300 ≤ 2000000) (ha : zAG a T) (hC : zK pr s0 mi ([.ref h, .ref G, .int (nI p), .ref o] : List Value).toArray me co cX2_putDifferences 7 none yX2_putDifferences wsX2_putDifferences) (hA : ∀ q, s0.heap.size ≤ q → A q) (hK : va_K D vwCl [(cI, .int), (cC, .char)] s0) (hE : (zEs adK adV) A s0 s0.heap) :
    ∀ (N : Nat) (k : Nat) (b : Nat → Nat), w - k < N → (k ≤ w) → (zAG b (T ++ (zdf g q p k).2)) → ∀ (H : Heap) (locs : List Loc), va_P D vwCl [(h, .inr (2, [.ref ca, .int (nI ((T ++ (zdf g q p k).2).length))])), (ca, .inl (cC, 1500, .inl (fun jj => nI (b jj)))), (G, .inr (0, [.ref ga, .int (nI n)])), (ga, .inl (cI, 96, .inl (fun jj => nI (g jj)))), (o, .inr (0, [.ref oa, .int (nI w)])), (oa, .inl (cI, 24, .inl (fun jj => nI (q jj))))] H → va_D A [(h, .inr (2, [.ref ca, .int (nI ((T ++ (zdf g q p k).2).length))])), (ca, .inl (cC, 1500, .inl (fun jj => nI (b jj)))), (G, .inr (0, [.ref ga, .int (nI n)])), (ga, .inl (cI, 96, .inl (fun jj => nI (g jj)))), (o, .inr (0, [.ref oa, .int (nI w)])), (oa, .inl (cI, 24, .inl (fun jj => nI (q jj))))] → va_S A s0.heap H locs → ∀ ls : Array Slot, lv_has ls 7 [(0, .ref h), (1, .ref G), (2, .int (nI p)), (3, .ref o), (4, .int (nI ((zdf g q p k).1))), (5, .int (nI k))] → W pr l en ({ frames := 4, cells := 0, slots := 0, locals := 85 } : Room) s0 mi ([.ref h, .ref G, .int (nI p), .ref o] : List Value).toArray bl me co H locs 0 0 (MQ bl (va_Qv (fun (uu : Nat → Nat) => zAG uu (T ++ (zdif g q p w))) (fun (uu : Nat → Nat) t9 => va_P D vwCl ([(h, .inr (2, [.ref ca, .int (nI ((T ++ (zdif g q p w)).length))])), (ca, .inl (cC, 1500, .inl (fun jj => nI (uu jj)))), (G, .inr (0, [.ref ga, .int (nI n)])), (ga, .inl (cI, 96, .inl (fun jj => nI (g jj)))), (o, .inr (0, [.ref oa, .int (nI w)])), (oa, .inl (cI, 24, .inl (fun jj => nI (q jj))))]) t9.heap) A) ([.ref h, .ref G, .int (nI p), .ref o] : List Value).toArray s0 0 0 A) (F0 mi 6 ls []) := by
  obtain ⟨hx, hb, hr, hml, hown, hts, hlocks, hin⟩ := id hC
  intro N
  induction N with
  | zero =>
    intro k b hmea
    omega
  | succ N ih =>
    intro k b hmea hk hac H locs hP hD hS ls hl
    have l0 : (T ++ (zdf g q p k).2).length = T.length + (zdf g q p k).2.length := List.length_append
    have l1 := zdf_len g q p k
    have l3 := zdf_le g q p k
    refine lv_iload hx hb dX2_putDifferences_6 (lv_at hl 5 rfl) ?_
    refine lv_aload_n hx hb dX2_putDifferences_8 rfl (lv_at hl 3 rfl) ?_
    refine va_getN (D := D) (ci := 0) (v := .int (nI w)) (C := RX0) (T := TX0) (N := 2) hx hb hts (fun w h => List.mem_cons_of_mem _ (inUX0 w h)) hown hK hP 4 rfl rfl 1 (by decide) (va_Nw.use rfl (hE.1.1 ("StrandMapper$MapText", 34, "StrandMapper$Bases", "used", "I", "StrandMapper") (by decide +kernel))) (fun _ h9 => h9) rfl dX2_putDifferences_9 ?_
    refine zz_ge (tgt := 70) hx hb dX2_putDifferences_12 (by decide) (by omega) (by omega) (fun c12 => ?_) (fun c12 => ?_)
    · skip
      refine lv_aload_n hx hb dX2_putDifferences_70 rfl (lv_at hl 0 rfl) ?_
      refine lv_iload hx hb dX2_putDifferences_71 (lv_at hl 4 rfl) ?_
      refine zCv (is := [0, 1]) (wf := (fun (uu : Nat → Nat) => ([(h, .inr (2, [.ref ca, .int (nI (((T ++ (zdf g q p k).2) ++ (znum ((zdf g q p k).1))).length))])), (ca, .inl (cC, 1500, .inl (fun jj => nI (uu jj))))] : va_W))) (va_runV (As := [.int (nI ((zdf g q p k).1))]) (rest := []) ⟨hx, hb, hml, hown, hts⟩ (k_tputNumber l D cI cC  h ca ((zdf g q p k).1) (T ++ (zdf g q p k).2) b (by omega) (by omega) hac H.size) (cwV 1 hts (zgood mw_409 mw_366 mw_367 mw_31 mw_368) rfl rfl rfl (by decide +kernel) ⟨Nat.le_of_ble_eq_true rfl, Nat.le_of_ble_eq_true rfl⟩) ⟨zBlind zE0_ok, va_recv hK hP (ci := 2) (q0 := 0) rfl rfl, zAt (av := [.ref h, .int (nI ((zdf g q p k).1))]) zE0_ok hP hD hK hS hA trivial [0, 1] rfl (by decide)⟩ rfl rfl hl.1 rfl (lv_room (Nat.le_of_ble_eq_true rfl)) dX2_putDifferences_73 ⟨Nat.zero_le _, Nat.zero_le _⟩) hP hD hS hA rfl (fun _ => rfl) (fun u73 H locs w73 hP hD hS => ?_)
      have hP : va_P D vwCl [(h, .inr (2, [.ref ca, .int (nI (((T ++ (zdf g q p k).2) ++ (znum ((zdf g q p k).1))).length))])), (ca, .inl (cC, 1500, .inl (fun jj => nI (u73 jj)))), (G, .inr (0, [.ref ga, .int (nI n)])), (ga, .inl (cI, 96, .inl (fun jj => nI (g jj)))), (o, .inr (0, [.ref oa, .int (nI w)])), (oa, .inl (cI, 24, .inl (fun jj => nI (q jj))))] H := hP
      have hD : va_D A [(h, .inr (2, [.ref ca, .int (nI (((T ++ (zdf g q p k).2) ++ (znum ((zdf g q p k).1))).length))])), (ca, .inl (cC, 1500, .inl (fun jj => nI (u73 jj)))), (G, .inr (0, [.ref ga, .int (nI n)])), (ga, .inl (cI, 96, .inl (fun jj => nI (g jj)))), (o, .inr (0, [.ref oa, .int (nI w)])), (oa, .inl (cI, 24, .inl (fun jj => nI (q jj))))] := hD
      obtain ⟨T73, hT73⟩ : ∃ y9, y9 = (T ++ (zdf g q p k).2) ++ (znum ((zdf g q p k).1)) := ⟨_, rfl⟩
      rw [← hT73] at hP hD w73
      have lT73 : T73.length ≤ (T ++ (zdf g q p k).2).length + 10 := by rw [hT73, List.length_append]; have := znum_len ((zdf g q p k).1); omega
      have hP : va_P D vwCl [(h, .inr (2, [.ref ca, .int (nI (T73.length))])), (ca, .inl (cC, 1500, .inl (fun jj => nI (u73 jj)))), (G, .inr (0, [.ref ga, .int (nI n)])), (ga, .inl (cI, 96, .inl (fun jj => nI (g jj)))), (o, .inr (0, [.ref oa, .int (nI w)])), (oa, .inl (cI, 24, .inl (fun jj => nI (q jj))))] H := hP
      have hD : va_D A [(h, .inr (2, [.ref ca, .int (nI (T73.length))])), (ca, .inl (cC, 1500, .inl (fun jj => nI (u73 jj)))), (G, .inr (0, [.ref ga, .int (nI n)])), (ga, .inl (cI, 96, .inl (fun jj => nI (g jj)))), (o, .inr (0, [.ref oa, .int (nI w)])), (oa, .inl (cI, 24, .inl (fun jj => nI (q jj))))] := hD
      have eT : T73 = T ++ zdif g q p w := by rw [hT73, show k = w by omega, List.append_assoc]; rfl
      rw [eT] at hP hD w73
      have hP : va_P D vwCl [(h, .inr (2, [.ref ca, .int (nI ((T ++ zdif g q p w).length))])), (ca, .inl (cC, 1500, .inl (fun jj => nI (u73 jj)))), (G, .inr (0, [.ref ga, .int (nI n)])), (ga, .inl (cI, 96, .inl (fun jj => nI (g jj)))), (o, .inr (0, [.ref oa, .int (nI w)])), (oa, .inl (cI, 24, .inl (fun jj => nI (q jj))))] H := hP
      have hD : va_D A [(h, .inr (2, [.ref ca, .int (nI ((T ++ zdif g q p w).length))])), (ca, .inl (cC, 1500, .inl (fun jj => nI (u73 jj)))), (G, .inr (0, [.ref ga, .int (nI n)])), (ga, .inl (cI, 96, .inl (fun jj => nI (g jj)))), (o, .inr (0, [.ref oa, .int (nI w)])), (oa, .inl (cI, 24, .inl (fun jj => nI (q jj))))] := hD
      exact zVret hC hS u73 w73 hP dX2_putDifferences_76
    · skip
      have l2 := hr3 k (by omega)
      have l4 := hg (p + k)
      have l5 : g (p + k) < lenJS.getD 0 0 := Nat.lt_of_lt_of_le (show g (p + k) < 5 by omega) (by decide)
      have l6 := zs_lt (i := 0) (by decide) l5
      refine lv_aload_n hx hb dX2_putDifferences_15 rfl (lv_at hl 1 rfl) ?_
      refine va_getN (D := D) (ci := 0) (v := .ref ga) (C := RX0) (T := TX0) (N := 2) hx hb hts (fun w h => List.mem_cons_of_mem _ (inUX0 w h)) hown hK hP 2 rfl rfl 0 (by decide) (va_Nw.use rfl (hE.1.1 ("StrandMapper$MapText", 41, "StrandMapper$Bases", "symbols", "[I", "StrandMapper") (by decide +kernel))) (fun _ h9 => h9) rfl dX2_putDifferences_16 ?_
      refine lv_iload_n hx hb dX2_putDifferences_19 rfl (lv_at hl 2 rfl) ?_
      refine lv_iload hx hb dX2_putDifferences_20 (lv_at hl 5 rfl) ?_
      refine lv_iadd hx hb dX2_putDifferences_22 ?_
      refine zz_top (y := nI (p + k)) (zadd (by omega)) ?_
      refine zz_iald (k := p + k) (f := g) hx hb hK hP 3 0 rfl rfl (by omega) (by omega) dX2_putDifferences_23 ?_
      refine lv_istore (lv' := [(6, .int (nI (g (p + k)))), (0, .ref h), (1, .ref G), (2, .int (nI p)), (3, .ref o), (4, .int (nI ((zdf g q p k).1))), (5, .int (nI k))]) hx hb dX2_putDifferences_24 hl (by decide) rfl (fun ls hl => ?_)
      refine lv_iload hx hb dX2_putDifferences_26 (lv_at hl 0 rfl) ?_
      refine lv_aload_n hx hb dX2_putDifferences_28 rfl (lv_at hl 4 rfl) ?_
      refine va_getN (D := D) (ci := 0) (v := .ref oa) (C := RX0) (T := TX0) (N := 2) hx hb hts (fun w h => List.mem_cons_of_mem _ (inUX0 w h)) hown hK hP 4 rfl rfl 0 (by decide) (va_Nw.use rfl (hE.1.1 ("StrandMapper$MapText", 41, "StrandMapper$Bases", "symbols", "[I", "StrandMapper") (by decide +kernel))) (fun _ h9 => h9) rfl dX2_putDifferences_29 ?_
      refine lv_iload hx hb dX2_putDifferences_32 (lv_at hl 6 rfl) ?_
      refine zz_iald (k := k) (f := q) hx hb hK hP 5 0 rfl rfl (by omega) (by omega) dX2_putDifferences_34 ?_
      refine zz_ne (tgt := 44) hx hb dX2_putDifferences_35 (by decide) (by omega) (by omega) (fun c35 => ?_) (fun c35 => ?_)
      · skip
        refine lv_aload_n hx hb dX2_putDifferences_44 rfl (lv_at hl 1 rfl) ?_
        refine lv_iload hx hb dX2_putDifferences_45 (lv_at hl 5 rfl) ?_
        refine zCv (is := [0, 1]) (wf := (fun (uu : Nat → Nat) => ([(h, .inr (2, [.ref ca, .int (nI (((T ++ (zdf g q p k).2) ++ (znum ((zdf g q p k).1))).length))])), (ca, .inl (cC, 1500, .inl (fun jj => nI (uu jj))))] : va_W))) (va_runV (As := [.int (nI ((zdf g q p k).1))]) (rest := []) ⟨hx, hb, hml, hown, hts⟩ (k_tputNumber l D cI cC  h ca ((zdf g q p k).1) (T ++ (zdf g q p k).2) b (by omega) (by omega) hac H.size) (cwV 1 hts (zgood mw_409 mw_366 mw_367 mw_31 mw_368) rfl rfl rfl (by decide +kernel) ⟨Nat.le_of_ble_eq_true rfl, Nat.le_of_ble_eq_true rfl⟩) ⟨zBlind zE0_ok, va_recv hK hP (ci := 2) (q0 := 0) rfl rfl, zAt (av := [.ref h, .int (nI ((zdf g q p k).1))]) zE0_ok hP hD hK hS hA trivial [0, 1] rfl (by decide)⟩ rfl rfl hl.1 rfl (lv_room (Nat.le_of_ble_eq_true rfl)) dX2_putDifferences_47 ⟨Nat.zero_le _, Nat.zero_le _⟩) hP hD hS hA rfl (fun _ => rfl) (fun u47 H locs w47 hP hD hS => ?_)
        have hP : va_P D vwCl [(h, .inr (2, [.ref ca, .int (nI (((T ++ (zdf g q p k).2) ++ (znum ((zdf g q p k).1))).length))])), (ca, .inl (cC, 1500, .inl (fun jj => nI (u47 jj)))), (G, .inr (0, [.ref ga, .int (nI n)])), (ga, .inl (cI, 96, .inl (fun jj => nI (g jj)))), (o, .inr (0, [.ref oa, .int (nI w)])), (oa, .inl (cI, 24, .inl (fun jj => nI (q jj))))] H := hP
        have hD : va_D A [(h, .inr (2, [.ref ca, .int (nI (((T ++ (zdf g q p k).2) ++ (znum ((zdf g q p k).1))).length))])), (ca, .inl (cC, 1500, .inl (fun jj => nI (u47 jj)))), (G, .inr (0, [.ref ga, .int (nI n)])), (ga, .inl (cI, 96, .inl (fun jj => nI (g jj)))), (o, .inr (0, [.ref oa, .int (nI w)])), (oa, .inl (cI, 24, .inl (fun jj => nI (q jj))))] := hD
        obtain ⟨T47, hT47⟩ : ∃ y9, y9 = (T ++ (zdf g q p k).2) ++ (znum ((zdf g q p k).1)) := ⟨_, rfl⟩
        rw [← hT47] at hP hD w47
        have lT47 : T47.length ≤ (T ++ (zdf g q p k).2).length + 10 := by rw [hT47, List.length_append]; have := znum_len ((zdf g q p k).1); omega
        have hP : va_P D vwCl [(h, .inr (2, [.ref ca, .int (nI (T47.length))])), (ca, .inl (cC, 1500, .inl (fun jj => nI (u47 jj)))), (G, .inr (0, [.ref ga, .int (nI n)])), (ga, .inl (cI, 96, .inl (fun jj => nI (g jj)))), (o, .inr (0, [.ref oa, .int (nI w)])), (oa, .inl (cI, 24, .inl (fun jj => nI (q jj))))] H := hP
        have hD : va_D A [(h, .inr (2, [.ref ca, .int (nI (T47.length))])), (ca, .inl (cC, 1500, .inl (fun jj => nI (u47 jj)))), (G, .inr (0, [.ref ga, .int (nI n)])), (ga, .inl (cI, 96, .inl (fun jj => nI (g jj)))), (o, .inr (0, [.ref oa, .int (nI w)])), (oa, .inl (cI, 24, .inl (fun jj => nI (q jj))))] := hD
        refine lv_aload_n hx hb dX2_putDifferences_50 rfl (lv_at hl 1 rfl) ?_
        refine va_ldcS hx hb hown (hE.2.2.2.1 ("StrandMapper$MapText", 39, "ACGTN", 0) (by decide +kernel)) dX2_putDifferences_51 ?_
        refine lv_iload hx hb dX2_putDifferences_53 (lv_at hl 0 rfl) ?_
        refine zCi (is := []) (wf := (fun (uu : Unit) => ([] : va_W))) (va_runV (As := [.int (nI (g (p + k)))]) (rest := [.ref h]) ⟨hx, hb, hml, hown, hts⟩ (s_charAt l D cI cC adK adV 0 (g (p + k)) (by decide) l5 H.size) (cwV 1 hts (zgood mw_323 mw_324 mw_325 mw_33 mw_326) rfl rfl rfl (by decide +kernel) ⟨Nat.le_of_ble_eq_true rfl, Nat.le_of_ble_eq_true rfl⟩) ⟨zBlind (zEs_ok adK adV), vk_recv hE.2.1 (by decide) hS, zAt (av := [.ref (adK 0), .int (nI (g (p + k)))]) (zEs_ok adK adV) hP hD hK hS hA hE [] rfl (by decide)⟩ rfl rfl hl.1 rfl (lv_room (Nat.le_of_ble_eq_true rfl)) dX2_putDifferences_55 ⟨Nat.zero_le _, Nat.zero_le _⟩) hP hD hS hA rfl (fun _ => rfl) (fun r55 u55 H locs w55 hP hD hS => ?_)
        obtain ⟨rfl, w55⟩ := w55
        have hP : va_P D vwCl [(h, .inr (2, [.ref ca, .int (nI (T47.length))])), (ca, .inl (cC, 1500, .inl (fun jj => nI (u47 jj)))), (G, .inr (0, [.ref ga, .int (nI n)])), (ga, .inl (cI, 96, .inl (fun jj => nI (g jj)))), (o, .inr (0, [.ref oa, .int (nI w)])), (oa, .inl (cI, 24, .inl (fun jj => nI (q jj))))] H := hP
        have hD : va_D A [(h, .inr (2, [.ref ca, .int (nI (T47.length))])), (ca, .inl (cC, 1500, .inl (fun jj => nI (u47 jj)))), (G, .inr (0, [.ref ga, .int (nI n)])), (ga, .inl (cI, 96, .inl (fun jj => nI (g jj)))), (o, .inr (0, [.ref oa, .int (nI w)])), (oa, .inl (cI, 24, .inl (fun jj => nI (q jj))))] := hD
        refine zCv (is := [0, 1]) (wf := (fun (uu : Nat → Nat) => ([(h, .inr (2, [.ref ca, .int (nI ((T47 ++ ([(ztc 0 (g (p + k)))])).length))])), (ca, .inl (cC, 1500, .inl (fun jj => nI (uu jj))))] : va_W))) (va_runV (As := [.int (nI (ztc 0 (g (p + k))))]) (rest := []) ⟨hx, hb, hml, hown, hts⟩ (k_tput l D cI cC  h ca (ztc 0 (g (p + k))) T47 u47 (by omega) (by omega) w47 H.size) (cwV 1 hts (zgood mw_361 mw_362 mw_363 mw_31 mw_364) rfl rfl rfl (by decide +kernel) ⟨Nat.le_of_ble_eq_true rfl, Nat.le_of_ble_eq_true rfl⟩) ⟨zBlind zE0_ok, va_recv hK hP (ci := 2) (q0 := 0) rfl rfl, zAt (av := [.ref h, .int (nI (ztc 0 (g (p + k))))]) zE0_ok hP hD hK hS hA trivial [0, 1] rfl (by decide)⟩ rfl rfl hl.1 rfl (lv_room (Nat.le_of_ble_eq_true rfl)) dX2_putDifferences_58 ⟨Nat.zero_le _, Nat.zero_le _⟩) hP hD hS hA rfl (fun _ => rfl) (fun u58 H locs w58 hP hD hS => ?_)
        have hP : va_P D vwCl [(h, .inr (2, [.ref ca, .int (nI ((T47 ++ ([(ztc 0 (g (p + k)))])).length))])), (ca, .inl (cC, 1500, .inl (fun jj => nI (u58 jj)))), (G, .inr (0, [.ref ga, .int (nI n)])), (ga, .inl (cI, 96, .inl (fun jj => nI (g jj)))), (o, .inr (0, [.ref oa, .int (nI w)])), (oa, .inl (cI, 24, .inl (fun jj => nI (q jj))))] H := hP
        have hD : va_D A [(h, .inr (2, [.ref ca, .int (nI ((T47 ++ ([(ztc 0 (g (p + k)))])).length))])), (ca, .inl (cC, 1500, .inl (fun jj => nI (u58 jj)))), (G, .inr (0, [.ref ga, .int (nI n)])), (ga, .inl (cI, 96, .inl (fun jj => nI (g jj)))), (o, .inr (0, [.ref oa, .int (nI w)])), (oa, .inl (cI, 24, .inl (fun jj => nI (q jj))))] := hD
        obtain ⟨T58, hT58⟩ : ∃ y9, y9 = T47 ++ ([(ztc 0 (g (p + k)))]) := ⟨_, rfl⟩
        rw [← hT58] at hP hD w58
        have lT58 : T58.length ≤ T47.length + 1 := by rw [hT58, List.length_append]; simp
        have hP : va_P D vwCl [(h, .inr (2, [.ref ca, .int (nI (T58.length))])), (ca, .inl (cC, 1500, .inl (fun jj => nI (u58 jj)))), (G, .inr (0, [.ref ga, .int (nI n)])), (ga, .inl (cI, 96, .inl (fun jj => nI (g jj)))), (o, .inr (0, [.ref oa, .int (nI w)])), (oa, .inl (cI, 24, .inl (fun jj => nI (q jj))))] H := hP
        have hD : va_D A [(h, .inr (2, [.ref ca, .int (nI (T58.length))])), (ca, .inl (cC, 1500, .inl (fun jj => nI (u58 jj)))), (G, .inr (0, [.ref ga, .int (nI n)])), (ga, .inl (cI, 96, .inl (fun jj => nI (g jj)))), (o, .inr (0, [.ref oa, .int (nI w)])), (oa, .inl (cI, 24, .inl (fun jj => nI (q jj))))] := hD
        refine lv_iconst (v := nI 0) hx hb dX2_putDifferences_61 (by decide) ?_
        refine lv_istore (lv' := [(4, .int (nI 0)), (6, .int (nI (g (p + k)))), (0, .ref h), (1, .ref G), (2, .int (nI p)), (3, .ref o), (5, .int (nI k))]) hx hb dX2_putDifferences_62 hl (by decide) rfl (fun ls hl => ?_)
        refine lv_iinc (v := nI (k + 1)) (lv' := [(5, .int (nI (k + 1))), (4, .int (nI 0)), (6, .int (nI (g (p + k)))), (0, .ref h), (1, .ref G), (2, .int (nI p)), (3, .ref o)]) hx hb dX2_putDifferences_64 hl (k := 6) rfl (zincE (by omega)) (by decide) rfl (fun ls hl => ?_)
        refine lv_goto (tgt := 6) hx hb dX2_putDifferences_67 (by decide) ?_
        have eT : T58 = T ++ (zdf g q p (k + 1)).2 := by rw [hT58, hT47, zdf_f c35, zs_let (q := g (p + k)) (by omega)]; simp
        rw [eT] at hP hD w58
        have hP : va_P D vwCl [(h, .inr (2, [.ref ca, .int (nI ((T ++ (zdf g q p (k + 1)).2).length))])), (ca, .inl (cC, 1500, .inl (fun jj => nI (u58 jj)))), (G, .inr (0, [.ref ga, .int (nI n)])), (ga, .inl (cI, 96, .inl (fun jj => nI (g jj)))), (o, .inr (0, [.ref oa, .int (nI w)])), (oa, .inl (cI, 24, .inl (fun jj => nI (q jj))))] H := hP
        have hD : va_D A [(h, .inr (2, [.ref ca, .int (nI ((T ++ (zdf g q p (k + 1)).2).length))])), (ca, .inl (cC, 1500, .inl (fun jj => nI (u58 jj)))), (G, .inr (0, [.ref ga, .int (nI n)])), (ga, .inl (cI, 96, .inl (fun jj => nI (g jj)))), (o, .inr (0, [.ref oa, .int (nI w)])), (oa, .inl (cI, 24, .inl (fun jj => nI (q jj))))] := hD
        have hl : lv_has ls 7 [(5, .int (nI (k + 1))), (4, .int (nI ((zdf g q p (k + 1)).1))), (6, .int (nI (g (p + k)))), (0, .ref h), (1, .ref G), (2, .int (nI p)), (3, .ref o)] := by rw [zdf_f c35]; exact hl
        exact ih (k + 1) u58 (by omega) (by omega) w58 _ _ hP hD hS ls (lv_sub hl [3, 4, 5, 6, 1, 0] rfl)
      · skip
        refine lv_iinc (v := nI ((zdf g q p k).1 + 1)) (lv' := [(4, .int (nI ((zdf g q p k).1 + 1))), (6, .int (nI (g (p + k)))), (0, .ref h), (1, .ref G), (2, .int (nI p)), (3, .ref o), (5, .int (nI k))]) hx hb dX2_putDifferences_38 hl (k := 5) rfl (zincE (by omega)) (by decide) rfl (fun ls hl => ?_)
        refine lv_goto (tgt := 64) hx hb dX2_putDifferences_41 (by decide) ?_
        refine lv_iinc (v := nI (k + 1)) (lv' := [(5, .int (nI (k + 1))), (4, .int (nI ((zdf g q p k).1 + 1))), (6, .int (nI (g (p + k)))), (0, .ref h), (1, .ref G), (2, .int (nI p)), (3, .ref o)]) hx hb dX2_putDifferences_64 hl (k := 6) rfl (zincE (by omega)) (by decide) rfl (fun ls hl => ?_)
        refine lv_goto (tgt := 6) hx hb dX2_putDifferences_67 (by decide) ?_
        have hP : va_P D vwCl [(h, .inr (2, [.ref ca, .int (nI ((T ++ (zdf g q p (k + 1)).2).length))])), (ca, .inl (cC, 1500, .inl (fun jj => nI (b jj)))), (G, .inr (0, [.ref ga, .int (nI n)])), (ga, .inl (cI, 96, .inl (fun jj => nI (g jj)))), (o, .inr (0, [.ref oa, .int (nI w)])), (oa, .inl (cI, 24, .inl (fun jj => nI (q jj))))] H := by rw [zdf_t c35]; exact hP
        have hD : va_D A [(h, .inr (2, [.ref ca, .int (nI ((T ++ (zdf g q p (k + 1)).2).length))])), (ca, .inl (cC, 1500, .inl (fun jj => nI (b jj)))), (G, .inr (0, [.ref ga, .int (nI n)])), (ga, .inl (cI, 96, .inl (fun jj => nI (g jj)))), (o, .inr (0, [.ref oa, .int (nI w)])), (oa, .inl (cI, 24, .inl (fun jj => nI (q jj))))] := by rw [zdf_t c35]; exact hD
        have hl : lv_has ls 7 [(5, .int (nI (k + 1))), (4, .int (nI ((zdf g q p (k + 1)).1))), (6, .int (nI (g (p + k)))), (0, .ref h), (1, .ref G), (2, .int (nI p)), (3, .ref o)] := by rw [zdf_t c35]; exact hl
        exact ih (k + 1) b (by omega) (by omega) (by rw [zdf_t c35]; exact hac) _ _ hP hD hS ls (lv_sub hl [3, 4, 5, 6, 1, 0] rfl)
set_option maxHeartbeats 4000000 in
set_option maxRecDepth 100000 in
theorem k_tputDiff (l : Launch) (D : va_G) (cI cC : ClassId) (adK adV : Nat → Nat) (h ca : Nat) (G ga n o oa w p : Nat) (g q : Nat → Nat) (T : List Nat) (a : Nat → Nat) (hn : n ≤ 96) (hg : ∀ i, g i ≤ 4) (hw : w ≤ 24) (hr3 : ∀ i, i < w → q i ≤ 3) (hp : p + w ≤ n) (hT : T.length + 300 ≤ 2000000) (ha : zAG a T) (sz : Nat) : Met l yX2_putDifferences wsX2_putDifferences ({ frames := 4, cells := 0, slots := 0, locals := 85 } : Room) (zPre (zEs adK adV) D vwCl [(cI, .int), (cC, .char)] [.ref h, .ref G, .int (nI p), .ref o] [(h, .inr (2, [.ref ca, .int (nI (T.length))])), (ca, .inl (cC, 1500, .inl (fun jj => nI (a jj)))), (G, .inr (0, [.ref ga, .int (nI n)])), (ga, .inl (cI, 96, .inl (fun jj => nI (g jj)))), (o, .inr (0, [.ref oa, .int (nI w)])), (oa, .inl (cI, 24, .inl (fun jj => nI (q jj))))] sz) (va_Qv (fun (uu : Nat → Nat) => zAG uu (T ++ (zdif g q p w))) (fun (uu : Nat → Nat) t9 => va_P D vwCl ([(h, .inr (2, [.ref ca, .int (nI ((T ++ (zdif g q p w)).length))])), (ca, .inl (cC, 1500, .inl (fun jj => nI (uu jj)))), (G, .inr (0, [.ref ga, .int (nI n)])), (ga, .inl (cI, 96, .inl (fun jj => nI (g jj)))), (o, .inr (0, [.ref oa, .int (nI w)])), (oa, .inl (cI, 24, .inl (fun jj => nI (q jj))))]) t9.heap) (va_A [(h, .inr (2, [.ref ca, .int (nI (T.length))])), (ca, .inl (cC, 1500, .inl (fun jj => nI (a jj)))), (G, .inr (0, [.ref ga, .int (nI n)])), (ga, .inl (cI, 96, .inl (fun jj => nI (g jj)))), (o, .inr (0, [.ref oa, .int (nI w)])), (oa, .inl (cI, 24, .inl (fun jj => nI (q jj))))] sz)) 0 0 (va_A [(h, .inr (2, [.ref ca, .int (nI (T.length))])), (ca, .inl (cC, 1500, .inl (fun jj => nI (a jj)))), (G, .inr (0, [.ref ga, .int (nI n)])), (ga, .inl (cI, 96, .inl (fun jj => nI (g jj)))), (o, .inr (0, [.ref oa, .int (nI w)])), (oa, .inl (cI, 24, .inl (fun jj => nI (q jj))))] sz) := by
  refine zMet (cc := cX2_putDifferences) (maxL := 7) (ret := none) (Qc := fun A => (va_Qv (fun (uu : Nat → Nat) => zAG uu (T ++ (zdif g q p w))) (fun (uu : Nat → Nat) t9 => va_P D vwCl ([(h, .inr (2, [.ref ca, .int (nI ((T ++ (zdif g q p w)).length))])), (ca, .inl (cC, 1500, .inl (fun jj => nI (uu jj)))), (G, .inr (0, [.ref ga, .int (nI n)])), (ga, .inl (cI, 96, .inl (fun jj => nI (g jj)))), (o, .inr (0, [.ref oa, .int (nI w)])), (oa, .inl (cI, 24, .inl (fun jj => nI (q jj))))]) t9.heap) A)) (by decide) rfl (Nat.le_of_ble_eq_true rfl) ?_
  intro pr en s0 mi bl me co A hC hA hK hE H locs hP hD hS ls hl
  obtain ⟨hx, hb, hr, hml, hown, hts, hlocks, hin⟩ := id hC
  have hl : lv_has ls 7 [(0, .ref h), (1, .ref G), (2, .int (nI p)), (3, .ref o)] := hl
  refine lv_iconst (v := nI 0) hx hb dX2_putDifferences_0 (by decide) ?_
  refine lv_istore (lv' := [(4, .int (nI 0)), (0, .ref h), (1, .ref G), (2, .int (nI p)), (3, .ref o)]) hx hb dX2_putDifferences_1 hl (by decide) rfl (fun ls hl => ?_)
  refine lv_iconst (v := nI 0) hx hb dX2_putDifferences_3 (by decide) ?_
  refine lv_istore (lv' := [(5, .int (nI 0)), (4, .int (nI 0)), (0, .ref h), (1, .ref G), (2, .int (nI p)), (3, .ref o)]) hx hb dX2_putDifferences_4 hl (by decide) rfl (fun ls hl => ?_)
  have hP : va_P D vwCl [(h, .inr (2, [.ref ca, .int (nI ((T ++ (zdf g q p 0).2).length))])), (ca, .inl (cC, 1500, .inl (fun jj => nI (a jj)))), (G, .inr (0, [.ref ga, .int (nI n)])), (ga, .inl (cI, 96, .inl (fun jj => nI (g jj)))), (o, .inr (0, [.ref oa, .int (nI w)])), (oa, .inl (cI, 24, .inl (fun jj => nI (q jj))))] H := by rw [show (zdf g q p 0).2 = [] from rfl, List.append_nil]; exact hP
  have hD : va_D A [(h, .inr (2, [.ref ca, .int (nI ((T ++ (zdf g q p 0).2).length))])), (ca, .inl (cC, 1500, .inl (fun jj => nI (a jj)))), (G, .inr (0, [.ref ga, .int (nI n)])), (ga, .inl (cI, 96, .inl (fun jj => nI (g jj)))), (o, .inr (0, [.ref oa, .int (nI w)])), (oa, .inl (cI, 24, .inl (fun jj => nI (q jj))))] := by rw [show (zdf g q p 0).2 = [] from rfl, List.append_nil]; exact hD
  have hl : lv_has ls 7 [(5, .int (nI 0)), (4, .int (nI ((zdf g q p 0).1))), (0, .ref h), (1, .ref G), (2, .int (nI p)), (3, .ref o)] := by skip; exact hl
  exact k_tputDiff_L6 l D cI cC adK adV h ca G ga n o oa w p g q T a hn hg hw hr3 hp hT ha hC hA hK hE _ 0 a (Nat.lt_succ_self _) (Nat.zero_le _) (by rw [show (zdf g q p 0).2 = [] from rfl, List.append_nil]; exact ha) _ _ hP hD hS ls (lv_sub hl [2, 3, 4, 5, 1, 0] rfl)
