set_option maxHeartbeats 4000000 in
set_option maxRecDepth 100000 in
theorem j_base (l : Launch) (D : va_G) (cI cC : ClassId)  (m0 gA n tA w fo pA sA mA ma npA nsA nmA le lA dr dA dn : Nat) (ch nc : Int32) (x : Nat) (g : Nat → Nat) (hn : n < 96) (hx4 : x ≤ 4) (sz : Nat) : Met l yX6_base wsX6_base ({ frames := 0, cells := 0, slots := 0, locals := 0 } : Room) (zPre zE0 D vwCl [(cI, .int), (cC, .char)] [.ref m0, .int (nI x)] [(m0, .inr (6, [.ref gA, .int (nI n), .ref tA, .int (nI w), .int (nI fo), .ref pA, .ref sA, .ref mA, .int ch, .int (nI ma), .ref npA, .ref nsA, .ref nmA, .int nc, .int (nI le), .ref lA, .int (nI dr), .ref dA, .int (nI dn)])), (gA, .inl (cI, 96, .inl (fun jj => nI (g jj))))] sz) (va_Qi (fun (rv : Int32) (uu : Unit) => rv = nI 1 ∧ True) (fun (uu : Unit) t9 => va_P D vwCl ([(m0, .inr (6, [.ref gA, .int (nI (n + 1)), .ref tA, .int (nI w), .int (nI fo), .ref pA, .ref sA, .ref mA, .int ch, .int (nI ma), .ref npA, .ref nsA, .ref nmA, .int nc, .int (nI le), .ref lA, .int (nI dr), .ref dA, .int (nI dn)])), (gA, .inl (cI, 96, .inl (fun jj => nI (zup g n x jj))))]) t9.heap) (va_A [(m0, .inr (6, [.ref gA, .int (nI n), .ref tA, .int (nI w), .int (nI fo), .ref pA, .ref sA, .ref mA, .int ch, .int (nI ma), .ref npA, .ref nsA, .ref nmA, .int nc, .int (nI le), .ref lA, .int (nI dr), .ref dA, .int (nI dn)])), (gA, .inl (cI, 96, .inl (fun jj => nI (g jj))))] sz)) 0 0 (va_A [(m0, .inr (6, [.ref gA, .int (nI n), .ref tA, .int (nI w), .int (nI fo), .ref pA, .ref sA, .ref mA, .int ch, .int (nI ma), .ref npA, .ref nsA, .ref nmA, .int nc, .int (nI le), .ref lA, .int (nI dr), .ref dA, .int (nI dn)])), (gA, .inl (cI, 96, .inl (fun jj => nI (g jj))))] sz) := by
  refine zMet (cc := cX6_base) (maxL := 2) (ret := (some .boolean)) (Qc := fun A => (va_Qi (fun (rv : Int32) (uu : Unit) => rv = nI 1 ∧ True) (fun (uu : Unit) t9 => va_P D vwCl ([(m0, .inr (6, [.ref gA, .int (nI (n + 1)), .ref tA, .int (nI w), .int (nI fo), .ref pA, .ref sA, .ref mA, .int ch, .int (nI ma), .ref npA, .ref nsA, .ref nmA, .int nc, .int (nI le), .ref lA, .int (nI dr), .ref dA, .int (nI dn)])), (gA, .inl (cI, 96, .inl (fun jj => nI (zup g n x jj))))]) t9.heap) A)) (by decide) rfl (Nat.le_of_ble_eq_true rfl) ?_
  intro pr en s0 mi bl me co A hC hA hK hE H locs hP hD hS ls hl
  obtain ⟨hx, hb, hr, hml, hown, hts, hlocks, hin⟩ := id hC
  have hl : lv_has ls 2 [(0, .ref m0), (1, .int (nI x))] := hl
  refine lv_iload_n hx hb dX6_base_0 rfl (lv_at hl 1 rfl) ?_
  refine zz_lt0 (tgt := 18) hx hb dX6_base_1 (by decide) (by omega) ?_
  refine lv_iload_n hx hb dX6_base_4 rfl (lv_at hl 1 rfl) ?_
  refine lv_iconst (v := nI 4) hx hb dX6_base_5 (by decide) ?_
  refine zz_gt (tgt := 18) hx hb dX6_base_6 (by decide) (by omega) (by omega) (fun c6 => ?_) (fun c6 => ?_)
  · skip
    exact absurd c6 (by omega)
  · skip
    refine lv_aload_n hx hb dX6_base_9 rfl (lv_at hl 0 rfl) ?_
    refine va_get (D := D) (ci := 6) (v := .int (nI n)) (C := RX6) (T := TX6) (N := 19) hx hb hts (fun w h => List.mem_cons_of_mem _ (inUX6 w h)) hown hK hP 0 rfl rfl 1 (by decide) (hts _ (List.mem_cons_of_mem _ mw_439)) (fun _ h9 => h9) rfl dX6_base_10 ?_
    refine lv_bipush (v := nI 96) hx hb dX6_base_13 (by decide) ?_
    refine zz_ne (tgt := 20) hx hb dX6_base_15 (by decide) (by omega) (by omega) (fun c15 => ?_) (fun c15 => ?_)
    · skip
      refine lv_aload_n hx hb dX6_base_20 rfl (lv_at hl 0 rfl) ?_
      refine va_get (D := D) (ci := 6) (v := .ref gA) (C := RX6) (T := TX6) (N := 19) hx hb hts (fun w h => List.mem_cons_of_mem _ (inUX6 w h)) hown hK hP 0 rfl rfl 0 (by decide) (hts _ (List.mem_cons_of_mem _ mw_438)) (fun _ h9 => h9) rfl dX6_base_21 ?_
      refine lv_aload_n hx hb dX6_base_24 rfl (lv_at hl 0 rfl) ?_
      refine va_get (D := D) (ci := 6) (v := .int (nI n)) (C := RX6) (T := TX6) (N := 19) hx hb hts (fun w h => List.mem_cons_of_mem _ (inUX6 w h)) hown hK hP 0 rfl rfl 1 (by decide) (hts _ (List.mem_cons_of_mem _ mw_439)) (fun _ h9 => h9) rfl dX6_base_25 ?_
      refine lv_iload_n hx hb dX6_base_28 rfl (lv_at hl 1 rfl) ?_
      refine zz_iast (k := n) (x := x) (f := g) hx hb hK hP hD hS 1 0 rfl rfl (by omega) (by omega) dX6_base_29 (fun H locs hP hD hS => ?_)
      have hP : va_P D vwCl [(m0, .inr (6, [.ref gA, .int (nI n), .ref tA, .int (nI w), .int (nI fo), .ref pA, .ref sA, .ref mA, .int ch, .int (nI ma), .ref npA, .ref nsA, .ref nmA, .int nc, .int (nI le), .ref lA, .int (nI dr), .ref dA, .int (nI dn)])), (gA, .inl (cI, 96, .inl (fun jj => nI (zup g n x jj))))] H := hP
      have hD : va_D A [(m0, .inr (6, [.ref gA, .int (nI n), .ref tA, .int (nI w), .int (nI fo), .ref pA, .ref sA, .ref mA, .int ch, .int (nI ma), .ref npA, .ref nsA, .ref nmA, .int nc, .int (nI le), .ref lA, .int (nI dr), .ref dA, .int (nI dn)])), (gA, .inl (cI, 96, .inl (fun jj => nI (zup g n x jj))))] := hD
      refine lv_aload_n hx hb dX6_base_30 rfl (lv_at hl 0 rfl) ?_
      refine lv_dup hx hb dX6_base_31 rfl ?_
      refine va_get (D := D) (ci := 6) (v := .int (nI n)) (C := RX6) (T := TX6) (N := 19) hx hb hts (fun w h => List.mem_cons_of_mem _ (inUX6 w h)) hown hK hP 0 rfl rfl 1 (by decide) (hts _ (List.mem_cons_of_mem _ mw_439)) (fun _ h9 => h9) rfl dX6_base_32 ?_
      refine lv_iconst (v := nI 1) hx hb dX6_base_35 (by decide) ?_
      refine lv_iadd hx hb dX6_base_36 ?_
      refine zz_top (y := nI (n + 1)) (zadd (by omega)) ?_
      refine va_put (D := D) (ci := 6) (v := .int (nI (n + 1))) (ty := .int) (C := RX6) (T := TX6) (N := 19) hx hb hts (fun w h => List.mem_cons_of_mem _ (inUX6 w h)) tyX6 tyX6_ok nmX6 hown hK hP hD hS 0 rfl rfl 1 (by decide) (hts _ (List.mem_cons_of_mem _ mw_439)) (fun _ h9 => h9) rfl (by decide +kernel) rfl rfl (Nat.le_of_ble_eq_true rfl) dX6_base_37 (fun H locs hP hD hS => ?_)
      have hP : va_P D vwCl [(m0, .inr (6, [.ref gA, .int (nI (n + 1)), .ref tA, .int (nI w), .int (nI fo), .ref pA, .ref sA, .ref mA, .int ch, .int (nI ma), .ref npA, .ref nsA, .ref nmA, .int nc, .int (nI le), .ref lA, .int (nI dr), .ref dA, .int (nI dn)])), (gA, .inl (cI, 96, .inl (fun jj => nI (zup g n x jj))))] H := hP
      have hD : va_D A [(m0, .inr (6, [.ref gA, .int (nI (n + 1)), .ref tA, .int (nI w), .int (nI fo), .ref pA, .ref sA, .ref mA, .int ch, .int (nI ma), .ref npA, .ref nsA, .ref nmA, .int nc, .int (nI le), .ref lA, .int (nI dr), .ref dA, .int (nI dn)])), (gA, .inl (cI, 96, .inl (fun jj => nI (zup g n x jj))))] := hD
      refine lv_iconst (v := nI 1) hx hb dX6_base_40 (by decide) ?_
      exact zIret hC hS () ⟨rfl, trivial⟩ hP (by decide) dX6_base_41
    · skip
      exact absurd c15 (by omega)
set_option maxHeartbeats 4000000 in
set_option maxRecDepth 100000 in
theorem j_base0 (l : Launch) (D : va_G) (cI cC : ClassId)  (m0 gA n tA w fo pA sA mA ma npA nsA nmA le lA dr dA dn : Nat) (ch nc : Int32) (b : Int32) (g : Nat → Nat) (hn : n ≤ 96) (hbad : (b < 0 ∨ nI 4 < b) ∨ n = 96) (sz : Nat) : Met l yX6_base wsX6_base ({ frames := 0, cells := 0, slots := 0, locals := 0 } : Room) (zPre zE0 D vwCl [(cI, .int), (cC, .char)] [.ref m0, .int b] [(m0, .inr (6, [.ref gA, .int (nI n), .ref tA, .int (nI w), .int (nI fo), .ref pA, .ref sA, .ref mA, .int ch, .int (nI ma), .ref npA, .ref nsA, .ref nmA, .int nc, .int (nI le), .ref lA, .int (nI dr), .ref dA, .int (nI dn)])), (gA, .inl (cI, 96, .inl (fun jj => nI (g jj))))] sz) (va_Qi (fun (rv : Int32) (uu : Unit) => rv = nI 0 ∧ True) (fun (uu : Unit) t9 => va_P D vwCl ([(m0, .inr (6, [.ref gA, .int (nI n), .ref tA, .int (nI w), .int (nI fo), .ref pA, .ref sA, .ref mA, .int ch, .int (nI ma), .ref npA, .ref nsA, .ref nmA, .int nc, .int (nI le), .ref lA, .int (nI dr), .ref dA, .int (nI dn)])), (gA, .inl (cI, 96, .inl (fun jj => nI (g jj))))]) t9.heap) (va_A [(m0, .inr (6, [.ref gA, .int (nI n), .ref tA, .int (nI w), .int (nI fo), .ref pA, .ref sA, .ref mA, .int ch, .int (nI ma), .ref npA, .ref nsA, .ref nmA, .int nc, .int (nI le), .ref lA, .int (nI dr), .ref dA, .int (nI dn)])), (gA, .inl (cI, 96, .inl (fun jj => nI (g jj))))] sz)) 0 0 (va_A [(m0, .inr (6, [.ref gA, .int (nI n), .ref tA, .int (nI w), .int (nI fo), .ref pA, .ref sA, .ref mA, .int ch, .int (nI ma), .ref npA, .ref nsA, .ref nmA, .int nc, .int (nI le), .ref lA, .int (nI dr), .ref dA, .int (nI dn)])), (gA, .inl (cI, 96, .inl (fun jj => nI (g jj))))] sz) := by
  refine zMet (cc := cX6_base) (maxL := 2) (ret := (some .boolean)) (Qc := fun A => (va_Qi (fun (rv : Int32) (uu : Unit) => rv = nI 0 ∧ True) (fun (uu : Unit) t9 => va_P D vwCl ([(m0, .inr (6, [.ref gA, .int (nI n), .ref tA, .int (nI w), .int (nI fo), .ref pA, .ref sA, .ref mA, .int ch, .int (nI ma), .ref npA, .ref nsA, .ref nmA, .int nc, .int (nI le), .ref lA, .int (nI dr), .ref dA, .int (nI dn)])), (gA, .inl (cI, 96, .inl (fun jj => nI (g jj))))]) t9.heap) A)) (by decide) rfl (Nat.le_of_ble_eq_true rfl) ?_
  intro pr en s0 mi bl me co A hC hA hK hE H locs hP hD hS ls hl
  obtain ⟨hx, hb, hr, hml, hown, hts, hlocks, hin⟩ := id hC
  have hl : lv_has ls 2 [(0, .ref m0), (1, .int b)] := hl
  refine lv_iload_n hx hb dX6_base_0 rfl (lv_at hl 1 rfl) ?_
  refine lv_if_lt (tgt := 18) hx hb dX6_base_1 (by decide) (fun c1 => ?_) (fun c1 => ?_)
  · skip
    refine lv_iconst (v := nI 0) hx hb dX6_base_18 (by decide) ?_
    exact zIret hC hS () ⟨rfl, trivial⟩ hP (by decide) dX6_base_19
  · skip
    refine lv_iload_n hx hb dX6_base_4 rfl (lv_at hl 1 rfl) ?_
    refine lv_iconst (v := nI 4) hx hb dX6_base_5 (by decide) ?_
    refine lv_icmp_gt (tgt := 18) hx hb dX6_base_6 (by decide) (fun c6 => ?_) (fun c6 => ?_)
    · skip
      refine lv_iconst (v := nI 0) hx hb dX6_base_18 (by decide) ?_
      exact zIret hC hS () ⟨rfl, trivial⟩ hP (by decide) dX6_base_19
    · skip
      refine lv_aload_n hx hb dX6_base_9 rfl (lv_at hl 0 rfl) ?_
      refine va_get (D := D) (ci := 6) (v := .int (nI n)) (C := RX6) (T := TX6) (N := 19) hx hb hts (fun w h => List.mem_cons_of_mem _ (inUX6 w h)) hown hK hP 0 rfl rfl 1 (by decide) (hts _ (List.mem_cons_of_mem _ mw_439)) (fun _ h9 => h9) rfl dX6_base_10 ?_
      refine lv_bipush (v := nI 96) hx hb dX6_base_13 (by decide) ?_
      refine zz_ne (tgt := 20) hx hb dX6_base_15 (by decide) (by omega) (by omega) (fun c15 => ?_) (fun c15 => ?_)
      · skip
        exact absurd hbad (fun q => by rcases q with (q | q) | q; exact c1 q; exact c6 q; exact c15 q)
      · skip
        refine lv_iconst (v := nI 0) hx hb dX6_base_18 (by decide) ?_
        exact zIret hC hS () ⟨rfl, trivial⟩ hP (by decide) dX6_base_19
set_option maxHeartbeats 4000000 in
set_option maxRecDepth 100000 in
theorem j_clear (l : Launch) (D : va_G) (cI cC : ClassId)  (m0 gA n tA w fo pA sA mA ma npA nsA nmA le lA dr dA dn : Nat) (ch nc : Int32)  (sz : Nat) : Met l yX6_clear wsX6_clear ({ frames := 0, cells := 0, slots := 0, locals := 0 } : Room) (zPre zE0 D vwCl [(cI, .int), (cC, .char)] [.ref m0] [(m0, .inr (6, [.ref gA, .int (nI n), .ref tA, .int (nI w), .int (nI fo), .ref pA, .ref sA, .ref mA, .int ch, .int (nI ma), .ref npA, .ref nsA, .ref nmA, .int nc, .int (nI le), .ref lA, .int (nI dr), .ref dA, .int (nI dn)]))] sz) (va_Qv (fun (uu : Unit) => True) (fun (uu : Unit) t9 => va_P D vwCl ([(m0, .inr (6, [.ref gA, .int (nI 0), .ref tA, .int (nI w), .int (nI fo), .ref pA, .ref sA, .ref mA, .int ch, .int (nI ma), .ref npA, .ref nsA, .ref nmA, .int nc, .int (nI le), .ref lA, .int (nI dr), .ref dA, .int (nI dn)]))]) t9.heap) (va_A [(m0, .inr (6, [.ref gA, .int (nI n), .ref tA, .int (nI w), .int (nI fo), .ref pA, .ref sA, .ref mA, .int ch, .int (nI ma), .ref npA, .ref nsA, .ref nmA, .int nc, .int (nI le), .ref lA, .int (nI dr), .ref dA, .int (nI dn)]))] sz)) 0 0 (va_A [(m0, .inr (6, [.ref gA, .int (nI n), .ref tA, .int (nI w), .int (nI fo), .ref pA, .ref sA, .ref mA, .int ch, .int (nI ma), .ref npA, .ref nsA, .ref nmA, .int nc, .int (nI le), .ref lA, .int (nI dr), .ref dA, .int (nI dn)]))] sz) := by
  refine zMet (cc := cX6_clear) (maxL := 1) (ret := none) (Qc := fun A => (va_Qv (fun (uu : Unit) => True) (fun (uu : Unit) t9 => va_P D vwCl ([(m0, .inr (6, [.ref gA, .int (nI 0), .ref tA, .int (nI w), .int (nI fo), .ref pA, .ref sA, .ref mA, .int ch, .int (nI ma), .ref npA, .ref nsA, .ref nmA, .int nc, .int (nI le), .ref lA, .int (nI dr), .ref dA, .int (nI dn)]))]) t9.heap) A)) (by decide) rfl (Nat.le_of_ble_eq_true rfl) ?_
  intro pr en s0 mi bl me co A hC hA hK hE H locs hP hD hS ls hl
  obtain ⟨hx, hb, hr, hml, hown, hts, hlocks, hin⟩ := id hC
  have hl : lv_has ls 1 [(0, .ref m0)] := hl
  refine lv_aload_n hx hb dX6_clear_0 rfl (lv_at hl 0 rfl) ?_
  refine lv_iconst (v := nI 0) hx hb dX6_clear_1 (by decide) ?_
  refine va_put (D := D) (ci := 6) (v := .int (nI 0)) (ty := .int) (C := RX6) (T := TX6) (N := 19) hx hb hts (fun w h => List.mem_cons_of_mem _ (inUX6 w h)) tyX6 tyX6_ok nmX6 hown hK hP hD hS 0 rfl rfl 1 (by decide) (hts _ (List.mem_cons_of_mem _ mw_439)) (fun _ h9 => h9) rfl (by decide +kernel) rfl rfl (Nat.le_of_ble_eq_true rfl) dX6_clear_2 (fun H locs hP hD hS => ?_)
  have hP : va_P D vwCl [(m0, .inr (6, [.ref gA, .int (nI 0), .ref tA, .int (nI w), .int (nI fo), .ref pA, .ref sA, .ref mA, .int ch, .int (nI ma), .ref npA, .ref nsA, .ref nmA, .int nc, .int (nI le), .ref lA, .int (nI dr), .ref dA, .int (nI dn)]))] H := hP
  have hD : va_D A [(m0, .inr (6, [.ref gA, .int (nI 0), .ref tA, .int (nI w), .int (nI fo), .ref pA, .ref sA, .ref mA, .int ch, .int (nI ma), .ref npA, .ref nsA, .ref nmA, .int nc, .int (nI le), .ref lA, .int (nI dr), .ref dA, .int (nI dn)]))] := hD
  exact zVret hC hS () trivial hP dX6_clear_5
set_option maxHeartbeats 4000000 in
set_option maxRecDepth 100000 in
theorem j_read (l : Launch) (D : va_G) (cI cC : ClassId)  (m0 gA n tA w fo pA sA mA ma npA nsA nmA le lA dr dA dn : Nat) (ch nc : Int32) (x : Nat) (r : Nat → Nat) (hw : w < 24) (hx3 : x ≤ 3) (sz : Nat) : Met l yX6_read wsX6_read ({ frames := 0, cells := 0, slots := 0, locals := 0 } : Room) (zPre zE0 D vwCl [(cI, .int), (cC, .char)] [.ref m0, .int (nI x)] [(m0, .inr (6, [.ref gA, .int (nI n), .ref tA, .int (nI w), .int (nI fo), .ref pA, .ref sA, .ref mA, .int ch, .int (nI ma), .ref npA, .ref nsA, .ref nmA, .int nc, .int (nI le), .ref lA, .int (nI dr), .ref dA, .int (nI dn)])), (tA, .inl (cI, 24, .inl (fun jj => nI (r jj))))] sz) (va_Qi (fun (rv : Int32) (uu : Unit) => rv = nI 1 ∧ True) (fun (uu : Unit) t9 => va_P D vwCl ([(m0, .inr (6, [.ref gA, .int (nI n), .ref tA, .int (nI (w + 1)), .int (nI fo), .ref pA, .ref sA, .ref mA, .int ch, .int (nI ma), .ref npA, .ref nsA, .ref nmA, .int nc, .int (nI le), .ref lA, .int (nI dr), .ref dA, .int (nI dn)])), (tA, .inl (cI, 24, .inl (fun jj => nI (zup r w x jj))))]) t9.heap) (va_A [(m0, .inr (6, [.ref gA, .int (nI n), .ref tA, .int (nI w), .int (nI fo), .ref pA, .ref sA, .ref mA, .int ch, .int (nI ma), .ref npA, .ref nsA, .ref nmA, .int nc, .int (nI le), .ref lA, .int (nI dr), .ref dA, .int (nI dn)])), (tA, .inl (cI, 24, .inl (fun jj => nI (r jj))))] sz)) 0 0 (va_A [(m0, .inr (6, [.ref gA, .int (nI n), .ref tA, .int (nI w), .int (nI fo), .ref pA, .ref sA, .ref mA, .int ch, .int (nI ma), .ref npA, .ref nsA, .ref nmA, .int nc, .int (nI le), .ref lA, .int (nI dr), .ref dA, .int (nI dn)])), (tA, .inl (cI, 24, .inl (fun jj => nI (r jj))))] sz) := by
  refine zMet (cc := cX6_read) (maxL := 2) (ret := (some .boolean)) (Qc := fun A => (va_Qi (fun (rv : Int32) (uu : Unit) => rv = nI 1 ∧ True) (fun (uu : Unit) t9 => va_P D vwCl ([(m0, .inr (6, [.ref gA, .int (nI n), .ref tA, .int (nI (w + 1)), .int (nI fo), .ref pA, .ref sA, .ref mA, .int ch, .int (nI ma), .ref npA, .ref nsA, .ref nmA, .int nc, .int (nI le), .ref lA, .int (nI dr), .ref dA, .int (nI dn)])), (tA, .inl (cI, 24, .inl (fun jj => nI (zup r w x jj))))]) t9.heap) A)) (by decide) rfl (Nat.le_of_ble_eq_true rfl) ?_
  intro pr en s0 mi bl me co A hC hA hK hE H locs hP hD hS ls hl
  obtain ⟨hx, hb, hr, hml, hown, hts, hlocks, hin⟩ := id hC
  have hl : lv_has ls 2 [(0, .ref m0), (1, .int (nI x))] := hl
  refine lv_iload_n hx hb dX6_read_0 rfl (lv_at hl 1 rfl) ?_
  refine zz_lt0 (tgt := 18) hx hb dX6_read_1 (by decide) (by omega) ?_
  refine lv_iload_n hx hb dX6_read_4 rfl (lv_at hl 1 rfl) ?_
  refine lv_iconst (v := nI 3) hx hb dX6_read_5 (by decide) ?_
  refine zz_gt (tgt := 18) hx hb dX6_read_6 (by decide) (by omega) (by omega) (fun c6 => ?_) (fun c6 => ?_)
  · skip
    exact absurd c6 (by omega)
  · skip
    refine lv_aload_n hx hb dX6_read_9 rfl (lv_at hl 0 rfl) ?_
    refine va_get (D := D) (ci := 6) (v := .int (nI w)) (C := RX6) (T := TX6) (N := 19) hx hb hts (fun w h => List.mem_cons_of_mem _ (inUX6 w h)) hown hK hP 0 rfl rfl 3 (by decide) (hts _ (List.mem_cons_of_mem _ mw_441)) (fun _ h9 => h9) rfl dX6_read_10 ?_
    refine lv_bipush (v := nI 24) hx hb dX6_read_13 (by decide) ?_
    refine zz_ne (tgt := 20) hx hb dX6_read_15 (by decide) (by omega) (by omega) (fun c15 => ?_) (fun c15 => ?_)
    · skip
      refine lv_aload_n hx hb dX6_read_20 rfl (lv_at hl 0 rfl) ?_
      refine va_get (D := D) (ci := 6) (v := .ref tA) (C := RX6) (T := TX6) (N := 19) hx hb hts (fun w h => List.mem_cons_of_mem _ (inUX6 w h)) hown hK hP 0 rfl rfl 2 (by decide) (hts _ (List.mem_cons_of_mem _ mw_440)) (fun _ h9 => h9) rfl dX6_read_21 ?_
      refine lv_aload_n hx hb dX6_read_24 rfl (lv_at hl 0 rfl) ?_
      refine va_get (D := D) (ci := 6) (v := .int (nI w)) (C := RX6) (T := TX6) (N := 19) hx hb hts (fun w h => List.mem_cons_of_mem _ (inUX6 w h)) hown hK hP 0 rfl rfl 3 (by decide) (hts _ (List.mem_cons_of_mem _ mw_441)) (fun _ h9 => h9) rfl dX6_read_25 ?_
      refine lv_iload_n hx hb dX6_read_28 rfl (lv_at hl 1 rfl) ?_
      refine zz_iast (k := w) (x := x) (f := r) hx hb hK hP hD hS 1 0 rfl rfl (by omega) (by omega) dX6_read_29 (fun H locs hP hD hS => ?_)
      have hP : va_P D vwCl [(m0, .inr (6, [.ref gA, .int (nI n), .ref tA, .int (nI w), .int (nI fo), .ref pA, .ref sA, .ref mA, .int ch, .int (nI ma), .ref npA, .ref nsA, .ref nmA, .int nc, .int (nI le), .ref lA, .int (nI dr), .ref dA, .int (nI dn)])), (tA, .inl (cI, 24, .inl (fun jj => nI (zup r w x jj))))] H := hP
      have hD : va_D A [(m0, .inr (6, [.ref gA, .int (nI n), .ref tA, .int (nI w), .int (nI fo), .ref pA, .ref sA, .ref mA, .int ch, .int (nI ma), .ref npA, .ref nsA, .ref nmA, .int nc, .int (nI le), .ref lA, .int (nI dr), .ref dA, .int (nI dn)])), (tA, .inl (cI, 24, .inl (fun jj => nI (zup r w x jj))))] := hD
      refine lv_aload_n hx hb dX6_read_30 rfl (lv_at hl 0 rfl) ?_
      refine lv_dup hx hb dX6_read_31 rfl ?_
      refine va_get (D := D) (ci := 6) (v := .int (nI w)) (C := RX6) (T := TX6) (N := 19) hx hb hts (fun w h => List.mem_cons_of_mem _ (inUX6 w h)) hown hK hP 0 rfl rfl 3 (by decide) (hts _ (List.mem_cons_of_mem _ mw_441)) (fun _ h9 => h9) rfl dX6_read_32 ?_
      refine lv_iconst (v := nI 1) hx hb dX6_read_35 (by decide) ?_
      refine lv_iadd hx hb dX6_read_36 ?_
      refine zz_top (y := nI (w + 1)) (zadd (by omega)) ?_
      refine va_put (D := D) (ci := 6) (v := .int (nI (w + 1))) (ty := .int) (C := RX6) (T := TX6) (N := 19) hx hb hts (fun w h => List.mem_cons_of_mem _ (inUX6 w h)) tyX6 tyX6_ok nmX6 hown hK hP hD hS 0 rfl rfl 3 (by decide) (hts _ (List.mem_cons_of_mem _ mw_441)) (fun _ h9 => h9) rfl (by decide +kernel) rfl rfl (Nat.le_of_ble_eq_true rfl) dX6_read_37 (fun H locs hP hD hS => ?_)
      have hP : va_P D vwCl [(m0, .inr (6, [.ref gA, .int (nI n), .ref tA, .int (nI (w + 1)), .int (nI fo), .ref pA, .ref sA, .ref mA, .int ch, .int (nI ma), .ref npA, .ref nsA, .ref nmA, .int nc, .int (nI le), .ref lA, .int (nI dr), .ref dA, .int (nI dn)])), (tA, .inl (cI, 24, .inl (fun jj => nI (zup r w x jj))))] H := hP
      have hD : va_D A [(m0, .inr (6, [.ref gA, .int (nI n), .ref tA, .int (nI (w + 1)), .int (nI fo), .ref pA, .ref sA, .ref mA, .int ch, .int (nI ma), .ref npA, .ref nsA, .ref nmA, .int nc, .int (nI le), .ref lA, .int (nI dr), .ref dA, .int (nI dn)])), (tA, .inl (cI, 24, .inl (fun jj => nI (zup r w x jj))))] := hD
      refine lv_iconst (v := nI 1) hx hb dX6_read_40 (by decide) ?_
      exact zIret hC hS () ⟨rfl, trivial⟩ hP (by decide) dX6_read_41
    · skip
      exact absurd c15 (by omega)
set_option maxHeartbeats 4000000 in
set_option maxRecDepth 100000 in
theorem j_read0 (l : Launch) (D : va_G) (cI cC : ClassId)  (m0 gA n tA w fo pA sA mA ma npA nsA nmA le lA dr dA dn : Nat) (ch nc : Int32) (b : Int32) (r : Nat → Nat) (hw : w ≤ 24) (hbad : (b < 0 ∨ nI 3 < b) ∨ w = 24) (sz : Nat) : Met l yX6_read wsX6_read ({ frames := 0, cells := 0, slots := 0, locals := 0 } : Room) (zPre zE0 D vwCl [(cI, .int), (cC, .char)] [.ref m0, .int b] [(m0, .inr (6, [.ref gA, .int (nI n), .ref tA, .int (nI w), .int (nI fo), .ref pA, .ref sA, .ref mA, .int ch, .int (nI ma), .ref npA, .ref nsA, .ref nmA, .int nc, .int (nI le), .ref lA, .int (nI dr), .ref dA, .int (nI dn)])), (tA, .inl (cI, 24, .inl (fun jj => nI (r jj))))] sz) (va_Qi (fun (rv : Int32) (uu : Unit) => rv = nI 0 ∧ True) (fun (uu : Unit) t9 => va_P D vwCl ([(m0, .inr (6, [.ref gA, .int (nI n), .ref tA, .int (nI w), .int (nI fo), .ref pA, .ref sA, .ref mA, .int ch, .int (nI ma), .ref npA, .ref nsA, .ref nmA, .int nc, .int (nI le), .ref lA, .int (nI dr), .ref dA, .int (nI dn)])), (tA, .inl (cI, 24, .inl (fun jj => nI (r jj))))]) t9.heap) (va_A [(m0, .inr (6, [.ref gA, .int (nI n), .ref tA, .int (nI w), .int (nI fo), .ref pA, .ref sA, .ref mA, .int ch, .int (nI ma), .ref npA, .ref nsA, .ref nmA, .int nc, .int (nI le), .ref lA, .int (nI dr), .ref dA, .int (nI dn)])), (tA, .inl (cI, 24, .inl (fun jj => nI (r jj))))] sz)) 0 0 (va_A [(m0, .inr (6, [.ref gA, .int (nI n), .ref tA, .int (nI w), .int (nI fo), .ref pA, .ref sA, .ref mA, .int ch, .int (nI ma), .ref npA, .ref nsA, .ref nmA, .int nc, .int (nI le), .ref lA, .int (nI dr), .ref dA, .int (nI dn)])), (tA, .inl (cI, 24, .inl (fun jj => nI (r jj))))] sz) := by
  refine zMet (cc := cX6_read) (maxL := 2) (ret := (some .boolean)) (Qc := fun A => (va_Qi (fun (rv : Int32) (uu : Unit) => rv = nI 0 ∧ True) (fun (uu : Unit) t9 => va_P D vwCl ([(m0, .inr (6, [.ref gA, .int (nI n), .ref tA, .int (nI w), .int (nI fo), .ref pA, .ref sA, .ref mA, .int ch, .int (nI ma), .ref npA, .ref nsA, .ref nmA, .int nc, .int (nI le), .ref lA, .int (nI dr), .ref dA, .int (nI dn)])), (tA, .inl (cI, 24, .inl (fun jj => nI (r jj))))]) t9.heap) A)) (by decide) rfl (Nat.le_of_ble_eq_true rfl) ?_
  intro pr en s0 mi bl me co A hC hA hK hE H locs hP hD hS ls hl
  obtain ⟨hx, hb, hr, hml, hown, hts, hlocks, hin⟩ := id hC
  have hl : lv_has ls 2 [(0, .ref m0), (1, .int b)] := hl
  refine lv_iload_n hx hb dX6_read_0 rfl (lv_at hl 1 rfl) ?_
  refine lv_if_lt (tgt := 18) hx hb dX6_read_1 (by decide) (fun c1 => ?_) (fun c1 => ?_)
  · skip
    refine lv_iconst (v := nI 0) hx hb dX6_read_18 (by decide) ?_
    exact zIret hC hS () ⟨rfl, trivial⟩ hP (by decide) dX6_read_19
  · skip
    refine lv_iload_n hx hb dX6_read_4 rfl (lv_at hl 1 rfl) ?_
    refine lv_iconst (v := nI 3) hx hb dX6_read_5 (by decide) ?_
    refine lv_icmp_gt (tgt := 18) hx hb dX6_read_6 (by decide) (fun c6 => ?_) (fun c6 => ?_)
    · skip
      refine lv_iconst (v := nI 0) hx hb dX6_read_18 (by decide) ?_
      exact zIret hC hS () ⟨rfl, trivial⟩ hP (by decide) dX6_read_19
    · skip
      refine lv_aload_n hx hb dX6_read_9 rfl (lv_at hl 0 rfl) ?_
      refine va_get (D := D) (ci := 6) (v := .int (nI w)) (C := RX6) (T := TX6) (N := 19) hx hb hts (fun w h => List.mem_cons_of_mem _ (inUX6 w h)) hown hK hP 0 rfl rfl 3 (by decide) (hts _ (List.mem_cons_of_mem _ mw_441)) (fun _ h9 => h9) rfl dX6_read_10 ?_
      refine lv_bipush (v := nI 24) hx hb dX6_read_13 (by decide) ?_
      refine zz_ne (tgt := 20) hx hb dX6_read_15 (by decide) (by omega) (by omega) (fun c15 => ?_) (fun c15 => ?_)
      · skip
        exact absurd hbad (fun q => by rcases q with (q | q) | q; exact c1 q; exact c6 q; exact c15 q)
      · skip
        refine lv_iconst (v := nI 0) hx hb dX6_read_18 (by decide) ?_
        exact zIret hC hS () ⟨rfl, trivial⟩ hP (by decide) dX6_read_19
set_option maxHeartbeats 4000000 in
set_option maxRecDepth 100000 in
theorem j_wipe (l : Launch) (D : va_G) (cI cC : ClassId)  (m0 gA n tA w fo pA sA mA ma npA nsA nmA le lA dr dA dn : Nat) (ch nc : Int32)  (sz : Nat) : Met l yX6_wipe wsX6_wipe ({ frames := 0, cells := 0, slots := 0, locals := 0 } : Room) (zPre zE0 D vwCl [(cI, .int), (cC, .char)] [.ref m0] [(m0, .inr (6, [.ref gA, .int (nI n), .ref tA, .int (nI w), .int (nI fo), .ref pA, .ref sA, .ref mA, .int ch, .int (nI ma), .ref npA, .ref nsA, .ref nmA, .int nc, .int (nI le), .ref lA, .int (nI dr), .ref dA, .int (nI dn)]))] sz) (va_Qv (fun (uu : Unit) => True) (fun (uu : Unit) t9 => va_P D vwCl ([(m0, .inr (6, [.ref gA, .int (nI n), .ref tA, .int (nI 0), .int (nI fo), .ref pA, .ref sA, .ref mA, .int ch, .int (nI ma), .ref npA, .ref nsA, .ref nmA, .int nc, .int (nI le), .ref lA, .int (nI dr), .ref dA, .int (nI dn)]))]) t9.heap) (va_A [(m0, .inr (6, [.ref gA, .int (nI n), .ref tA, .int (nI w), .int (nI fo), .ref pA, .ref sA, .ref mA, .int ch, .int (nI ma), .ref npA, .ref nsA, .ref nmA, .int nc, .int (nI le), .ref lA, .int (nI dr), .ref dA, .int (nI dn)]))] sz)) 0 0 (va_A [(m0, .inr (6, [.ref gA, .int (nI n), .ref tA, .int (nI w), .int (nI fo), .ref pA, .ref sA, .ref mA, .int ch, .int (nI ma), .ref npA, .ref nsA, .ref nmA, .int nc, .int (nI le), .ref lA, .int (nI dr), .ref dA, .int (nI dn)]))] sz) := by
  refine zMet (cc := cX6_wipe) (maxL := 1) (ret := none) (Qc := fun A => (va_Qv (fun (uu : Unit) => True) (fun (uu : Unit) t9 => va_P D vwCl ([(m0, .inr (6, [.ref gA, .int (nI n), .ref tA, .int (nI 0), .int (nI fo), .ref pA, .ref sA, .ref mA, .int ch, .int (nI ma), .ref npA, .ref nsA, .ref nmA, .int nc, .int (nI le), .ref lA, .int (nI dr), .ref dA, .int (nI dn)]))]) t9.heap) A)) (by decide) rfl (Nat.le_of_ble_eq_true rfl) ?_
  intro pr en s0 mi bl me co A hC hA hK hE H locs hP hD hS ls hl
  obtain ⟨hx, hb, hr, hml, hown, hts, hlocks, hin⟩ := id hC
  have hl : lv_has ls 1 [(0, .ref m0)] := hl
  refine lv_aload_n hx hb dX6_wipe_0 rfl (lv_at hl 0 rfl) ?_
  refine lv_iconst (v := nI 0) hx hb dX6_wipe_1 (by decide) ?_
  refine va_put (D := D) (ci := 6) (v := .int (nI 0)) (ty := .int) (C := RX6) (T := TX6) (N := 19) hx hb hts (fun w h => List.mem_cons_of_mem _ (inUX6 w h)) tyX6 tyX6_ok nmX6 hown hK hP hD hS 0 rfl rfl 3 (by decide) (hts _ (List.mem_cons_of_mem _ mw_441)) (fun _ h9 => h9) rfl (by decide +kernel) rfl rfl (Nat.le_of_ble_eq_true rfl) dX6_wipe_2 (fun H locs hP hD hS => ?_)
  have hP : va_P D vwCl [(m0, .inr (6, [.ref gA, .int (nI n), .ref tA, .int (nI 0), .int (nI fo), .ref pA, .ref sA, .ref mA, .int ch, .int (nI ma), .ref npA, .ref nsA, .ref nmA, .int nc, .int (nI le), .ref lA, .int (nI dr), .ref dA, .int (nI dn)]))] H := hP
  have hD : va_D A [(m0, .inr (6, [.ref gA, .int (nI n), .ref tA, .int (nI 0), .int (nI fo), .ref pA, .ref sA, .ref mA, .int ch, .int (nI ma), .ref npA, .ref nsA, .ref nmA, .int nc, .int (nI le), .ref lA, .int (nI dr), .ref dA, .int (nI dn)]))] := hD
  exact zVret hC hS () trivial hP dX6_wipe_5
set_option maxHeartbeats 4000000 in
set_option maxRecDepth 100000 in
theorem j_symbol (l : Launch) (D : va_G) (cI cC : ClassId)  (m0 gA n tA w fo pA sA mA ma npA nsA nmA le lA dr dA dn : Nat) (ch nc : Int32) (t k : Nat) (r : Nat → Nat) (hw : w ≤ 24) (hr3 : ∀ i, i < w → r i ≤ 3) (ht : t ≤ 1) (hk : k < w) (sz : Nat) : Met l yX6_symbol wsX6_symbol ({ frames := 0, cells := 0, slots := 0, locals := 0 } : Room) (zPre zE0 D vwCl [(cI, .int), (cC, .char)] [.ref m0, .int (nI t), .int (nI k)] [(m0, .inr (6, [.ref gA, .int (nI n), .ref tA, .int (nI w), .int (nI fo), .ref pA, .ref sA, .ref mA, .int ch, .int (nI ma), .ref npA, .ref nsA, .ref nmA, .int nc, .int (nI le), .ref lA, .int (nI dr), .ref dA, .int (nI dn)])), (tA, .inl (cI, 24, .inl (fun jj => nI (r jj))))] sz) (va_Qi (fun (rv : Int32) (uu : Unit) => rv = nI (zsy w r t k) ∧ True) (fun (uu : Unit) t9 => va_P D vwCl ([(m0, .inr (6, [.ref gA, .int (nI n), .ref tA, .int (nI w), .int (nI fo), .ref pA, .ref sA, .ref mA, .int ch, .int (nI ma), .ref npA, .ref nsA, .ref nmA, .int nc, .int (nI le), .ref lA, .int (nI dr), .ref dA, .int (nI dn)])), (tA, .inl (cI, 24, .inl (fun jj => nI (r jj))))]) t9.heap) (va_A [(m0, .inr (6, [.ref gA, .int (nI n), .ref tA, .int (nI w), .int (nI fo), .ref pA, .ref sA, .ref mA, .int ch, .int (nI ma), .ref npA, .ref nsA, .ref nmA, .int nc, .int (nI le), .ref lA, .int (nI dr), .ref dA, .int (nI dn)])), (tA, .inl (cI, 24, .inl (fun jj => nI (r jj))))] sz)) 0 0 (va_A [(m0, .inr (6, [.ref gA, .int (nI n), .ref tA, .int (nI w), .int (nI fo), .ref pA, .ref sA, .ref mA, .int ch, .int (nI ma), .ref npA, .ref nsA, .ref nmA, .int nc, .int (nI le), .ref lA, .int (nI dr), .ref dA, .int (nI dn)])), (tA, .inl (cI, 24, .inl (fun jj => nI (r jj))))] sz) := by
  refine zMet (cc := cX6_symbol) (maxL := 3) (ret := (some .int)) (Qc := fun A => (va_Qi (fun (rv : Int32) (uu : Unit) => rv = nI (zsy w r t k) ∧ True) (fun (uu : Unit) t9 => va_P D vwCl ([(m0, .inr (6, [.ref gA, .int (nI n), .ref tA, .int (nI w), .int (nI fo), .ref pA, .ref sA, .ref mA, .int ch, .int (nI ma), .ref npA, .ref nsA, .ref nmA, .int nc, .int (nI le), .ref lA, .int (nI dr), .ref dA, .int (nI dn)])), (tA, .inl (cI, 24, .inl (fun jj => nI (r jj))))]) t9.heap) A)) (by decide) rfl (Nat.le_of_ble_eq_true rfl) ?_
  intro pr en s0 mi bl me co A hC hA hK hE H locs hP hD hS ls hl
  obtain ⟨hx, hb, hr, hml, hown, hts, hlocks, hin⟩ := id hC
  have hl : lv_has ls 3 [(0, .ref m0), (1, .int (nI t)), (2, .int (nI k))] := hl
  refine lv_iload_n hx hb dX6_symbol_0 rfl (lv_at hl 1 rfl) ?_
  refine zz_ne0 (tgt := 13) hx hb dX6_symbol_1 (by decide) (by omega) (fun c1 => ?_) (fun c1 => ?_)
  · skip
    refine lv_iconst (v := nI 3) hx hb dX6_symbol_13 (by decide) ?_
    refine lv_aload_n hx hb dX6_symbol_14 rfl (lv_at hl 0 rfl) ?_
    refine va_get (D := D) (ci := 6) (v := .ref tA) (C := RX6) (T := TX6) (N := 19) hx hb hts (fun w h => List.mem_cons_of_mem _ (inUX6 w h)) hown hK hP 0 rfl rfl 2 (by decide) (hts _ (List.mem_cons_of_mem _ mw_440)) (fun _ h9 => h9) rfl dX6_symbol_15 ?_
    refine lv_aload_n hx hb dX6_symbol_18 rfl (lv_at hl 0 rfl) ?_
    refine va_get (D := D) (ci := 6) (v := .int (nI w)) (C := RX6) (T := TX6) (N := 19) hx hb hts (fun w h => List.mem_cons_of_mem _ (inUX6 w h)) hown hK hP 0 rfl rfl 3 (by decide) (hts _ (List.mem_cons_of_mem _ mw_441)) (fun _ h9 => h9) rfl dX6_symbol_19 ?_
    refine lv_iconst (v := nI 1) hx hb dX6_symbol_22 (by decide) ?_
    refine lv_isub hx hb dX6_symbol_23 ?_
    refine zz_top (y := nI (w - 1)) (pk_sub (by omega)) ?_
    refine lv_iload_n hx hb dX6_symbol_24 rfl (lv_at hl 2 rfl) ?_
    refine lv_isub hx hb dX6_symbol_25 ?_
    refine zz_top (y := nI ((w - 1) - k)) (pk_sub (by omega)) ?_
    refine zz_iald (k := (w - 1) - k) (f := r) hx hb hK hP 1 0 rfl rfl (by omega) (by omega) dX6_symbol_26 ?_
    refine lv_isub hx hb dX6_symbol_27 ?_
    refine zz_top (y := nI (3 - (r ((w - 1) - k)))) (pk_sub (hr3 _ (by omega))) ?_
    exact zIret hC hS () ⟨congrArg nI (by unfold zsy; first | rw [if_pos c1] | rw [if_neg c1]), trivial⟩ hP (vp_nar_int _) dX6_symbol_28
  · skip
    refine lv_aload_n hx hb dX6_symbol_4 rfl (lv_at hl 0 rfl) ?_
    refine va_get (D := D) (ci := 6) (v := .ref tA) (C := RX6) (T := TX6) (N := 19) hx hb hts (fun w h => List.mem_cons_of_mem _ (inUX6 w h)) hown hK hP 0 rfl rfl 2 (by decide) (hts _ (List.mem_cons_of_mem _ mw_440)) (fun _ h9 => h9) rfl dX6_symbol_5 ?_
    refine lv_iload_n hx hb dX6_symbol_8 rfl (lv_at hl 2 rfl) ?_
    refine zz_iald (k := k) (f := r) hx hb hK hP 1 0 rfl rfl (by omega) (by omega) dX6_symbol_9 ?_
    refine lv_goto (tgt := 28) hx hb dX6_symbol_10 (by decide) ?_
    exact zIret hC hS () ⟨congrArg nI (by unfold zsy; first | rw [if_pos c1] | rw [if_neg c1]), trivial⟩ hP (vp_nar_int _) dX6_symbol_28
set_option maxHeartbeats 4000000 in
set_option maxRecDepth 100000 in
theorem j_turn_L2 {pr : Program} {en : Env} {s0 : State} {mi : MethodId} {bl : List Frame} {me : Method} {co : Code} {A : Nat → Prop} (l : Launch) (D : va_G) (cI cC : ClassId)  (m0 gA n tA w fo pA sA mA ma npA nsA nmA le lA dr dA dn : Nat) (ch nc : Int32) (r : Nat → Nat) (hw : w ≤ 24) (hr3 : ∀ i, i < w → r i ≤ 3) (hC : zK pr s0 mi ([.ref m0] : List Value).toArray me co cX6_turn 3 none yX6_turn wsX6_turn) (hA : ∀ q, s0.heap.size ≤ q → A q) (hK : va_K D vwCl [(cI, .int), (cC, .char)] s0) (hE : zE0 A s0 s0.heap) :
    ∀ (N : Nat) (k : Nat) (f : Nat → Nat), (w + 1) / 2 - k < N → (k ≤ (w + 1) / 2) → (∀ i, i < w → (i < k ∨ w - 1 - i < k) → f i = 3 - r (w - 1 - i)) → (∀ i, i < w → k ≤ i → k ≤ w - 1 - i → f i = r i) → ∀ (H : Heap) (locs : List Loc), va_P D vwCl [(m0, .inr (6, [.ref gA, .int (nI n), .ref tA, .int (nI w), .int (nI fo), .ref pA, .ref sA, .ref mA, .int ch, .int (nI ma), .ref npA, .ref nsA, .ref nmA, .int nc, .int (nI le), .ref lA, .int (nI dr), .ref dA, .int (nI dn)])), (tA, .inl (cI, 24, .inl (fun jj => nI (f jj))))] H → va_D A [(m0, .inr (6, [.ref gA, .int (nI n), .ref tA, .int (nI w), .int (nI fo), .ref pA, .ref sA, .ref mA, .int ch, .int (nI ma), .ref npA, .ref nsA, .ref nmA, .int nc, .int (nI le), .ref lA, .int (nI dr), .ref dA, .int (nI dn)])), (tA, .inl (cI, 24, .inl (fun jj => nI (f jj))))] → va_S A s0.heap H locs → ∀ ls : Array Slot, lv_has ls 3 [(0, .ref m0), (1, .int (nI k))] → W pr l en ({ frames := 0, cells := 0, slots := 0, locals := 0 } : Room) s0 mi ([.ref m0] : List Value).toArray bl me co H locs 0 0 (MQ bl (va_Qv (fun (uu : Nat → Nat) => ∀ i, i < w → uu i = 3 - r (w - 1 - i)) (fun (uu : Nat → Nat) t9 => va_P D vwCl ([(m0, .inr (6, [.ref gA, .int (nI n), .ref tA, .int (nI w), .int (nI fo), .ref pA, .ref sA, .ref mA, .int ch, .int (nI ma), .ref npA, .ref nsA, .ref nmA, .int nc, .int (nI le), .ref lA, .int (nI dr), .ref dA, .int (nI dn)])), (tA, .inl (cI, 24, .inl (fun jj => nI (uu jj))))]) t9.heap) A) ([.ref m0] : List Value).toArray s0 0 0 A) (F0 mi 2 ls []) := by
  obtain ⟨hx, hb, hr, hml, hown, hts, hlocks, hin⟩ := id hC
  intro N
  induction N with
  | zero =>
    intro k f hmea
    omega
  | succ N ih =>
    intro k f hmea hk h1k h2k H locs hP hD hS ls hl
    refine lv_iload_n hx hb dX6_turn_2 rfl (lv_at hl 1 rfl) ?_
    refine lv_aload_n hx hb dX6_turn_3 rfl (lv_at hl 0 rfl) ?_
    refine va_get (D := D) (ci := 6) (v := .int (nI w)) (C := RX6) (T := TX6) (N := 19) hx hb hts (fun w h => List.mem_cons_of_mem _ (inUX6 w h)) hown hK hP 0 rfl rfl 3 (by decide) (hts _ (List.mem_cons_of_mem _ mw_441)) (fun _ h9 => h9) rfl dX6_turn_4 ?_
    refine lv_iconst (v := nI 1) hx hb dX6_turn_7 (by decide) ?_
    refine lv_iadd hx hb dX6_turn_8 ?_
    refine zz_top (y := nI (w + 1)) (zadd (by omega)) ?_
    refine lv_iconst (v := nI 2) hx hb dX6_turn_9 (by decide) ?_
    refine lv_idiv hx hb dX6_turn_10 (nI_ne0 (by omega) (by omega)) ?_
    refine zz_top (y := nI ((w + 1) / 2)) (pk_div (by omega) (by omega) (by omega)) ?_
    refine zz_ge (tgt := 64) hx hb dX6_turn_11 (by decide) (by omega) (by omega) (fun c11 => ?_) (fun c11 => ?_)
    · skip
      exact zVret hC hS f (fun i hi => h1k i hi (by omega)) hP dX6_turn_64
    · skip
      have q1 := h2k k (by omega) (by omega) (by omega)
      have q2 := h2k (w - 1 - k) (by omega) (by omega) (by omega)
      have q3 := hr3 k (by omega)
      have q4 := hr3 (w - 1 - k) (by omega)
      refine lv_iconst (v := nI 3) hx hb dX6_turn_14 (by decide) ?_
      refine lv_aload_n hx hb dX6_turn_15 rfl (lv_at hl 0 rfl) ?_
      refine va_get (D := D) (ci := 6) (v := .ref tA) (C := RX6) (T := TX6) (N := 19) hx hb hts (fun w h => List.mem_cons_of_mem _ (inUX6 w h)) hown hK hP 0 rfl rfl 2 (by decide) (hts _ (List.mem_cons_of_mem _ mw_440)) (fun _ h9 => h9) rfl dX6_turn_16 ?_
      refine lv_iload_n hx hb dX6_turn_19 rfl (lv_at hl 1 rfl) ?_
      refine zz_iald (k := k) (f := f) hx hb hK hP 1 0 rfl rfl (by omega) (by omega) dX6_turn_20 ?_
      refine lv_isub hx hb dX6_turn_21 ?_
      refine zz_top (y := nI (3 - (f k))) (pk_sub (by omega)) ?_
      refine lv_istore_n (lv' := [(2, .int (nI (3 - (f k)))), (0, .ref m0), (1, .int (nI k))]) hx hb dX6_turn_22 rfl hl (by decide) rfl (fun ls hl => ?_)
      refine lv_aload_n hx hb dX6_turn_23 rfl (lv_at hl 1 rfl) ?_
      refine va_get (D := D) (ci := 6) (v := .ref tA) (C := RX6) (T := TX6) (N := 19) hx hb hts (fun w h => List.mem_cons_of_mem _ (inUX6 w h)) hown hK hP 0 rfl rfl 2 (by decide) (hts _ (List.mem_cons_of_mem _ mw_440)) (fun _ h9 => h9) rfl dX6_turn_24 ?_
      refine lv_iload_n hx hb dX6_turn_27 rfl (lv_at hl 2 rfl) ?_
      refine lv_iconst (v := nI 3) hx hb dX6_turn_28 (by decide) ?_
      refine lv_aload_n hx hb dX6_turn_29 rfl (lv_at hl 1 rfl) ?_
      refine va_get (D := D) (ci := 6) (v := .ref tA) (C := RX6) (T := TX6) (N := 19) hx hb hts (fun w h => List.mem_cons_of_mem _ (inUX6 w h)) hown hK hP 0 rfl rfl 2 (by decide) (hts _ (List.mem_cons_of_mem _ mw_440)) (fun _ h9 => h9) rfl dX6_turn_30 ?_
      refine lv_aload_n hx hb dX6_turn_33 rfl (lv_at hl 1 rfl) ?_
      refine va_get (D := D) (ci := 6) (v := .int (nI w)) (C := RX6) (T := TX6) (N := 19) hx hb hts (fun w h => List.mem_cons_of_mem _ (inUX6 w h)) hown hK hP 0 rfl rfl 3 (by decide) (hts _ (List.mem_cons_of_mem _ mw_441)) (fun _ h9 => h9) rfl dX6_turn_34 ?_
      refine lv_iconst (v := nI 1) hx hb dX6_turn_37 (by decide) ?_
      refine lv_isub hx hb dX6_turn_38 ?_
      refine zz_top (y := nI (w - 1)) (pk_sub (by omega)) ?_
      refine lv_iload_n hx hb dX6_turn_39 rfl (lv_at hl 2 rfl) ?_
      refine lv_isub hx hb dX6_turn_40 ?_
      refine zz_top (y := nI ((w - 1) - k)) (pk_sub (by omega)) ?_
      refine zz_iald (k := (w - 1) - k) (f := f) hx hb hK hP 1 0 rfl rfl (by omega) (by omega) dX6_turn_41 ?_
      refine lv_isub hx hb dX6_turn_42 ?_
      refine zz_top (y := nI (3 - (f ((w - 1) - k)))) (pk_sub (by omega)) ?_
      refine zz_iast (k := k) (x := 3 - (f ((w - 1) - k))) (f := f) hx hb hK hP hD hS 1 0 rfl rfl (by omega) (by omega) dX6_turn_43 (fun H locs hP hD hS => ?_)
      have hP : va_P D vwCl [(m0, .inr (6, [.ref gA, .int (nI n), .ref tA, .int (nI w), .int (nI fo), .ref pA, .ref sA, .ref mA, .int ch, .int (nI ma), .ref npA, .ref nsA, .ref nmA, .int nc, .int (nI le), .ref lA, .int (nI dr), .ref dA, .int (nI dn)])), (tA, .inl (cI, 24, .inl (fun jj => nI (zup f k (3 - (f ((w - 1) - k))) jj))))] H := hP
      have hD : va_D A [(m0, .inr (6, [.ref gA, .int (nI n), .ref tA, .int (nI w), .int (nI fo), .ref pA, .ref sA, .ref mA, .int ch, .int (nI ma), .ref npA, .ref nsA, .ref nmA, .int nc, .int (nI le), .ref lA, .int (nI dr), .ref dA, .int (nI dn)])), (tA, .inl (cI, 24, .inl (fun jj => nI (zup f k (3 - (f ((w - 1) - k))) jj))))] := hD
      refine lv_aload_n hx hb dX6_turn_44 rfl (lv_at hl 1 rfl) ?_
      refine va_get (D := D) (ci := 6) (v := .ref tA) (C := RX6) (T := TX6) (N := 19) hx hb hts (fun w h => List.mem_cons_of_mem _ (inUX6 w h)) hown hK hP 0 rfl rfl 2 (by decide) (hts _ (List.mem_cons_of_mem _ mw_440)) (fun _ h9 => h9) rfl dX6_turn_45 ?_
      refine lv_aload_n hx hb dX6_turn_48 rfl (lv_at hl 1 rfl) ?_
      refine va_get (D := D) (ci := 6) (v := .int (nI w)) (C := RX6) (T := TX6) (N := 19) hx hb hts (fun w h => List.mem_cons_of_mem _ (inUX6 w h)) hown hK hP 0 rfl rfl 3 (by decide) (hts _ (List.mem_cons_of_mem _ mw_441)) (fun _ h9 => h9) rfl dX6_turn_49 ?_
      refine lv_iconst (v := nI 1) hx hb dX6_turn_52 (by decide) ?_
      refine lv_isub hx hb dX6_turn_53 ?_
      refine zz_top (y := nI (w - 1)) (pk_sub (by omega)) ?_
      refine lv_iload_n hx hb dX6_turn_54 rfl (lv_at hl 2 rfl) ?_
      refine lv_isub hx hb dX6_turn_55 ?_
      refine zz_top (y := nI ((w - 1) - k)) (pk_sub (by omega)) ?_
      refine lv_iload_n hx hb dX6_turn_56 rfl (lv_at hl 0 rfl) ?_
      refine zz_iast (k := (w - 1) - k) (x := 3 - (f k)) (f := zup f k (3 - (f ((w - 1) - k)))) hx hb hK hP hD hS 1 0 rfl rfl (by omega) (by omega) dX6_turn_57 (fun H locs hP hD hS => ?_)
      have hP : va_P D vwCl [(m0, .inr (6, [.ref gA, .int (nI n), .ref tA, .int (nI w), .int (nI fo), .ref pA, .ref sA, .ref mA, .int ch, .int (nI ma), .ref npA, .ref nsA, .ref nmA, .int nc, .int (nI le), .ref lA, .int (nI dr), .ref dA, .int (nI dn)])), (tA, .inl (cI, 24, .inl (fun jj => nI (zup (zup f k (3 - (f ((w - 1) - k)))) ((w - 1) - k) (3 - (f k)) jj))))] H := hP
      have hD : va_D A [(m0, .inr (6, [.ref gA, .int (nI n), .ref tA, .int (nI w), .int (nI fo), .ref pA, .ref sA, .ref mA, .int ch, .int (nI ma), .ref npA, .ref nsA, .ref nmA, .int nc, .int (nI le), .ref lA, .int (nI dr), .ref dA, .int (nI dn)])), (tA, .inl (cI, 24, .inl (fun jj => nI (zup (zup f k (3 - (f ((w - 1) - k)))) ((w - 1) - k) (3 - (f k)) jj))))] := hD
      refine lv_iinc (v := nI (k + 1)) (lv' := [(1, .int (nI (k + 1))), (2, .int (nI (3 - (f k)))), (0, .ref m0)]) hx hb dX6_turn_58 hl (k := 2) rfl (zincE (by omega)) (by decide) rfl (fun ls hl => ?_)
      refine lv_goto (tgt := 2) hx hb dX6_turn_61 (by decide) ?_
      exact ih (k + 1) (zup (zup f k (3 - (f ((w - 1) - k)))) ((w - 1) - k) (3 - (f k))) (by omega) (by omega) (fun i h1 h2 => by
        by_cases e : i = w - 1 - k
        · rw [e, zup_s, q1, show w - 1 - (w - 1 - k) = k by omega]
        · rw [zup_n e]
          by_cases d : i = k
          · rw [d, zup_s, q2]
          · rw [zup_n d]; exact h1k i h1 (by omega)) (fun i h1 h2 h3 => by rw [zup_n (by omega), zup_n (by omega)]; exact h2k i h1 (by omega) (by omega)) _ _ hP hD hS ls (lv_sub hl [2, 0] rfl)
set_option maxHeartbeats 4000000 in
set_option maxRecDepth 100000 in
theorem j_turn (l : Launch) (D : va_G) (cI cC : ClassId)  (m0 gA n tA w fo pA sA mA ma npA nsA nmA le lA dr dA dn : Nat) (ch nc : Int32) (r : Nat → Nat) (hw : w ≤ 24) (hr3 : ∀ i, i < w → r i ≤ 3) (sz : Nat) : Met l yX6_turn wsX6_turn ({ frames := 0, cells := 0, slots := 0, locals := 0 } : Room) (zPre zE0 D vwCl [(cI, .int), (cC, .char)] [.ref m0] [(m0, .inr (6, [.ref gA, .int (nI n), .ref tA, .int (nI w), .int (nI fo), .ref pA, .ref sA, .ref mA, .int ch, .int (nI ma), .ref npA, .ref nsA, .ref nmA, .int nc, .int (nI le), .ref lA, .int (nI dr), .ref dA, .int (nI dn)])), (tA, .inl (cI, 24, .inl (fun jj => nI (r jj))))] sz) (va_Qv (fun (uu : Nat → Nat) => ∀ i, i < w → uu i = 3 - r (w - 1 - i)) (fun (uu : Nat → Nat) t9 => va_P D vwCl ([(m0, .inr (6, [.ref gA, .int (nI n), .ref tA, .int (nI w), .int (nI fo), .ref pA, .ref sA, .ref mA, .int ch, .int (nI ma), .ref npA, .ref nsA, .ref nmA, .int nc, .int (nI le), .ref lA, .int (nI dr), .ref dA, .int (nI dn)])), (tA, .inl (cI, 24, .inl (fun jj => nI (uu jj))))]) t9.heap) (va_A [(m0, .inr (6, [.ref gA, .int (nI n), .ref tA, .int (nI w), .int (nI fo), .ref pA, .ref sA, .ref mA, .int ch, .int (nI ma), .ref npA, .ref nsA, .ref nmA, .int nc, .int (nI le), .ref lA, .int (nI dr), .ref dA, .int (nI dn)])), (tA, .inl (cI, 24, .inl (fun jj => nI (r jj))))] sz)) 0 0 (va_A [(m0, .inr (6, [.ref gA, .int (nI n), .ref tA, .int (nI w), .int (nI fo), .ref pA, .ref sA, .ref mA, .int ch, .int (nI ma), .ref npA, .ref nsA, .ref nmA, .int nc, .int (nI le), .ref lA, .int (nI dr), .ref dA, .int (nI dn)])), (tA, .inl (cI, 24, .inl (fun jj => nI (r jj))))] sz) := by
  refine zMet (cc := cX6_turn) (maxL := 3) (ret := none) (Qc := fun A => (va_Qv (fun (uu : Nat → Nat) => ∀ i, i < w → uu i = 3 - r (w - 1 - i)) (fun (uu : Nat → Nat) t9 => va_P D vwCl ([(m0, .inr (6, [.ref gA, .int (nI n), .ref tA, .int (nI w), .int (nI fo), .ref pA, .ref sA, .ref mA, .int ch, .int (nI ma), .ref npA, .ref nsA, .ref nmA, .int nc, .int (nI le), .ref lA, .int (nI dr), .ref dA, .int (nI dn)])), (tA, .inl (cI, 24, .inl (fun jj => nI (uu jj))))]) t9.heap) A)) (by decide) rfl (Nat.le_of_ble_eq_true rfl) ?_
  intro pr en s0 mi bl me co A hC hA hK hE H locs hP hD hS ls hl
  obtain ⟨hx, hb, hr, hml, hown, hts, hlocks, hin⟩ := id hC
  have hl : lv_has ls 3 [(0, .ref m0)] := hl
  refine lv_iconst (v := nI 0) hx hb dX6_turn_0 (by decide) ?_
  refine lv_istore_n (lv' := [(1, .int (nI 0)), (0, .ref m0)]) hx hb dX6_turn_1 rfl hl (by decide) rfl (fun ls hl => ?_)
  exact j_turn_L2 l D cI cC  m0 gA n tA w fo pA sA mA ma npA nsA nmA le lA dr dA dn ch nc r hw hr3 hC hA hK hE _ 0 r (Nat.lt_succ_self _) (Nat.zero_le _) (fun i h1 h2 => absurd h2 (by omega)) (fun i h1 h2 h3 => rfl) _ _ hP hD hS ls (lv_sub hl [1, 0] rfl)
set_option maxHeartbeats 4000000 in
set_option maxRecDepth 100000 in
theorem j_length (l : Launch) (D : va_G) (cI cC : ClassId)  (m0 gA n tA w fo pA sA mA ma npA nsA nmA le lA dr dA dn : Nat) (ch nc : Int32) (t : Nat) (ht : t ≤ 1) (sz : Nat) : Met l yX6_length wsX6_length ({ frames := 0, cells := 0, slots := 0, locals := 0 } : Room) (zPre zE0 D vwCl [(cI, .int), (cC, .char)] [.ref m0, .int (nI t)] [(m0, .inr (6, [.ref gA, .int (nI n), .ref tA, .int (nI w), .int (nI fo), .ref pA, .ref sA, .ref mA, .int ch, .int (nI ma), .ref npA, .ref nsA, .ref nmA, .int nc, .int (nI le), .ref lA, .int (nI dr), .ref dA, .int (nI dn)]))] sz) (va_Qi (fun (rv : Int32) (uu : Unit) => rv = nI (if t = 0 then n else w) ∧ True) (fun (uu : Unit) t9 => va_P D vwCl ([(m0, .inr (6, [.ref gA, .int (nI n), .ref tA, .int (nI w), .int (nI fo), .ref pA, .ref sA, .ref mA, .int ch, .int (nI ma), .ref npA, .ref nsA, .ref nmA, .int nc, .int (nI le), .ref lA, .int (nI dr), .ref dA, .int (nI dn)]))]) t9.heap) (va_A [(m0, .inr (6, [.ref gA, .int (nI n), .ref tA, .int (nI w), .int (nI fo), .ref pA, .ref sA, .ref mA, .int ch, .int (nI ma), .ref npA, .ref nsA, .ref nmA, .int nc, .int (nI le), .ref lA, .int (nI dr), .ref dA, .int (nI dn)]))] sz)) 0 0 (va_A [(m0, .inr (6, [.ref gA, .int (nI n), .ref tA, .int (nI w), .int (nI fo), .ref pA, .ref sA, .ref mA, .int ch, .int (nI ma), .ref npA, .ref nsA, .ref nmA, .int nc, .int (nI le), .ref lA, .int (nI dr), .ref dA, .int (nI dn)]))] sz) := by
  refine zMet (cc := cX6_length) (maxL := 2) (ret := (some .int)) (Qc := fun A => (va_Qi (fun (rv : Int32) (uu : Unit) => rv = nI (if t = 0 then n else w) ∧ True) (fun (uu : Unit) t9 => va_P D vwCl ([(m0, .inr (6, [.ref gA, .int (nI n), .ref tA, .int (nI w), .int (nI fo), .ref pA, .ref sA, .ref mA, .int ch, .int (nI ma), .ref npA, .ref nsA, .ref nmA, .int nc, .int (nI le), .ref lA, .int (nI dr), .ref dA, .int (nI dn)]))]) t9.heap) A)) (by decide) rfl (Nat.le_of_ble_eq_true rfl) ?_
  intro pr en s0 mi bl me co A hC hA hK hE H locs hP hD hS ls hl
  obtain ⟨hx, hb, hr, hml, hown, hts, hlocks, hin⟩ := id hC
  have hl : lv_has ls 2 [(0, .ref m0), (1, .int (nI t))] := hl
  refine lv_iload_n hx hb dX6_length_0 rfl (lv_at hl 1 rfl) ?_
  refine zz_eq0 (tgt := 11) hx hb dX6_length_1 (by decide) (by omega) (fun c1 => ?_) (fun c1 => ?_)
  · skip
    refine lv_aload_n hx hb dX6_length_11 rfl (lv_at hl 0 rfl) ?_
    refine va_get (D := D) (ci := 6) (v := .int (nI n)) (C := RX6) (T := TX6) (N := 19) hx hb hts (fun w h => List.mem_cons_of_mem _ (inUX6 w h)) hown hK hP 0 rfl rfl 1 (by decide) (hts _ (List.mem_cons_of_mem _ mw_439)) (fun _ h9 => h9) rfl dX6_length_12 ?_
    exact zIret hC hS () ⟨congrArg nI (by first | rw [if_pos c1] | rw [if_neg c1]), trivial⟩ hP (vp_nar_int _) dX6_length_15
  · skip
    refine lv_aload_n hx hb dX6_length_4 rfl (lv_at hl 0 rfl) ?_
    refine va_get (D := D) (ci := 6) (v := .int (nI w)) (C := RX6) (T := TX6) (N := 19) hx hb hts (fun w h => List.mem_cons_of_mem _ (inUX6 w h)) hown hK hP 0 rfl rfl 3 (by decide) (hts _ (List.mem_cons_of_mem _ mw_441)) (fun _ h9 => h9) rfl dX6_length_5 ?_
    refine lv_goto (tgt := 15) hx hb dX6_length_8 (by decide) ?_
    exact zIret hC hS () ⟨congrArg nI (by first | rw [if_pos c1] | rw [if_neg c1]), trivial⟩ hP (vp_nar_int _) dX6_length_15
set_option maxHeartbeats 4000000 in
set_option maxRecDepth 100000 in
theorem j_hits (l : Launch) (D : va_G) (cI cC : ClassId)  (m0 gA n tA w fo pA sA mA ma npA nsA nmA le lA dr dA dn : Nat) (ch nc : Int32)  (sz : Nat) : Met l yX6_hits wsX6_hits ({ frames := 0, cells := 0, slots := 0, locals := 0 } : Room) (zPre zE0 D vwCl [(cI, .int), (cC, .char)] [.ref m0] [(m0, .inr (6, [.ref gA, .int (nI n), .ref tA, .int (nI w), .int (nI fo), .ref pA, .ref sA, .ref mA, .int ch, .int (nI ma), .ref npA, .ref nsA, .ref nmA, .int nc, .int (nI le), .ref lA, .int (nI dr), .ref dA, .int (nI dn)]))] sz) (va_Qi (fun (rv : Int32) (uu : Unit) => rv = nI fo ∧ True) (fun (uu : Unit) t9 => va_P D vwCl ([(m0, .inr (6, [.ref gA, .int (nI n), .ref tA, .int (nI w), .int (nI fo), .ref pA, .ref sA, .ref mA, .int ch, .int (nI ma), .ref npA, .ref nsA, .ref nmA, .int nc, .int (nI le), .ref lA, .int (nI dr), .ref dA, .int (nI dn)]))]) t9.heap) (va_A [(m0, .inr (6, [.ref gA, .int (nI n), .ref tA, .int (nI w), .int (nI fo), .ref pA, .ref sA, .ref mA, .int ch, .int (nI ma), .ref npA, .ref nsA, .ref nmA, .int nc, .int (nI le), .ref lA, .int (nI dr), .ref dA, .int (nI dn)]))] sz)) 0 0 (va_A [(m0, .inr (6, [.ref gA, .int (nI n), .ref tA, .int (nI w), .int (nI fo), .ref pA, .ref sA, .ref mA, .int ch, .int (nI ma), .ref npA, .ref nsA, .ref nmA, .int nc, .int (nI le), .ref lA, .int (nI dr), .ref dA, .int (nI dn)]))] sz) := by
  refine zMet (cc := cX6_hits) (maxL := 1) (ret := (some .int)) (Qc := fun A => (va_Qi (fun (rv : Int32) (uu : Unit) => rv = nI fo ∧ True) (fun (uu : Unit) t9 => va_P D vwCl ([(m0, .inr (6, [.ref gA, .int (nI n), .ref tA, .int (nI w), .int (nI fo), .ref pA, .ref sA, .ref mA, .int ch, .int (nI ma), .ref npA, .ref nsA, .ref nmA, .int nc, .int (nI le), .ref lA, .int (nI dr), .ref dA, .int (nI dn)]))]) t9.heap) A)) (by decide) rfl (Nat.le_of_ble_eq_true rfl) ?_
  intro pr en s0 mi bl me co A hC hA hK hE H locs hP hD hS ls hl
  obtain ⟨hx, hb, hr, hml, hown, hts, hlocks, hin⟩ := id hC
  have hl : lv_has ls 1 [(0, .ref m0)] := hl
  refine lv_aload_n hx hb dX6_hits_0 rfl (lv_at hl 0 rfl) ?_
  refine va_get (D := D) (ci := 6) (v := .int (nI fo)) (C := RX6) (T := TX6) (N := 19) hx hb hts (fun w h => List.mem_cons_of_mem _ (inUX6 w h)) hown hK hP 0 rfl rfl 4 (by decide) (hts _ (List.mem_cons_of_mem _ mw_442)) (fun _ h9 => h9) rfl dX6_hits_1 ?_
  exact zIret hC hS () ⟨rfl, trivial⟩ hP (vp_nar_int _) dX6_hits_4
set_option maxHeartbeats 4000000 in
set_option maxRecDepth 100000 in
theorem j_size (l : Launch) (D : va_G) (cI cC : ClassId)  (m0 gA n tA w fo pA sA mA ma npA nsA nmA le lA dr dA dn : Nat) (ch nc : Int32)  (sz : Nat) : Met l yX6_size wsX6_size ({ frames := 0, cells := 0, slots := 0, locals := 0 } : Room) (zPre zE0 D vwCl [(cI, .int), (cC, .char)] [.ref m0] [(m0, .inr (6, [.ref gA, .int (nI n), .ref tA, .int (nI w), .int (nI fo), .ref pA, .ref sA, .ref mA, .int ch, .int (nI ma), .ref npA, .ref nsA, .ref nmA, .int nc, .int (nI le), .ref lA, .int (nI dr), .ref dA, .int (nI dn)]))] sz) (va_Qi (fun (rv : Int32) (uu : Unit) => rv = nI le ∧ True) (fun (uu : Unit) t9 => va_P D vwCl ([(m0, .inr (6, [.ref gA, .int (nI n), .ref tA, .int (nI w), .int (nI fo), .ref pA, .ref sA, .ref mA, .int ch, .int (nI ma), .ref npA, .ref nsA, .ref nmA, .int nc, .int (nI le), .ref lA, .int (nI dr), .ref dA, .int (nI dn)]))]) t9.heap) (va_A [(m0, .inr (6, [.ref gA, .int (nI n), .ref tA, .int (nI w), .int (nI fo), .ref pA, .ref sA, .ref mA, .int ch, .int (nI ma), .ref npA, .ref nsA, .ref nmA, .int nc, .int (nI le), .ref lA, .int (nI dr), .ref dA, .int (nI dn)]))] sz)) 0 0 (va_A [(m0, .inr (6, [.ref gA, .int (nI n), .ref tA, .int (nI w), .int (nI fo), .ref pA, .ref sA, .ref mA, .int ch, .int (nI ma), .ref npA, .ref nsA, .ref nmA, .int nc, .int (nI le), .ref lA, .int (nI dr), .ref dA, .int (nI dn)]))] sz) := by
  refine zMet (cc := cX6_size) (maxL := 1) (ret := (some .int)) (Qc := fun A => (va_Qi (fun (rv : Int32) (uu : Unit) => rv = nI le ∧ True) (fun (uu : Unit) t9 => va_P D vwCl ([(m0, .inr (6, [.ref gA, .int (nI n), .ref tA, .int (nI w), .int (nI fo), .ref pA, .ref sA, .ref mA, .int ch, .int (nI ma), .ref npA, .ref nsA, .ref nmA, .int nc, .int (nI le), .ref lA, .int (nI dr), .ref dA, .int (nI dn)]))]) t9.heap) A)) (by decide) rfl (Nat.le_of_ble_eq_true rfl) ?_
  intro pr en s0 mi bl me co A hC hA hK hE H locs hP hD hS ls hl
  obtain ⟨hx, hb, hr, hml, hown, hts, hlocks, hin⟩ := id hC
  have hl : lv_has ls 1 [(0, .ref m0)] := hl
  refine lv_aload_n hx hb dX6_size_0 rfl (lv_at hl 0 rfl) ?_
  refine va_get (D := D) (ci := 6) (v := .int (nI le)) (C := RX6) (T := TX6) (N := 19) hx hb hts (fun w h => List.mem_cons_of_mem _ (inUX6 w h)) hown hK hP 0 rfl rfl 14 (by decide) (hts _ (List.mem_cons_of_mem _ mw_452)) (fun _ h9 => h9) rfl dX6_size_1 ?_
  exact zIret hC hS () ⟨rfl, trivial⟩ hP (vp_nar_int _) dX6_size_4
set_option maxHeartbeats 4000000 in
set_option maxRecDepth 100000 in
theorem j_mappings (l : Launch) (D : va_G) (cI cC : ClassId)  (m0 gA n tA w fo pA sA mA ma npA nsA nmA le lA dr dA dn : Nat) (ch nc : Int32)  (sz : Nat) : Met l yX6_mappings wsX6_mappings ({ frames := 0, cells := 0, slots := 0, locals := 0 } : Room) (zPre zE0 D vwCl [(cI, .int), (cC, .char)] [.ref m0] [(m0, .inr (6, [.ref gA, .int (nI n), .ref tA, .int (nI w), .int (nI fo), .ref pA, .ref sA, .ref mA, .int ch, .int (nI ma), .ref npA, .ref nsA, .ref nmA, .int nc, .int (nI le), .ref lA, .int (nI dr), .ref dA, .int (nI dn)]))] sz) (va_Qi (fun (rv : Int32) (uu : Unit) => rv = nI dn ∧ True) (fun (uu : Unit) t9 => va_P D vwCl ([(m0, .inr (6, [.ref gA, .int (nI n), .ref tA, .int (nI w), .int (nI fo), .ref pA, .ref sA, .ref mA, .int ch, .int (nI ma), .ref npA, .ref nsA, .ref nmA, .int nc, .int (nI le), .ref lA, .int (nI dr), .ref dA, .int (nI dn)]))]) t9.heap) (va_A [(m0, .inr (6, [.ref gA, .int (nI n), .ref tA, .int (nI w), .int (nI fo), .ref pA, .ref sA, .ref mA, .int ch, .int (nI ma), .ref npA, .ref nsA, .ref nmA, .int nc, .int (nI le), .ref lA, .int (nI dr), .ref dA, .int (nI dn)]))] sz)) 0 0 (va_A [(m0, .inr (6, [.ref gA, .int (nI n), .ref tA, .int (nI w), .int (nI fo), .ref pA, .ref sA, .ref mA, .int ch, .int (nI ma), .ref npA, .ref nsA, .ref nmA, .int nc, .int (nI le), .ref lA, .int (nI dr), .ref dA, .int (nI dn)]))] sz) := by
  refine zMet (cc := cX6_mappings) (maxL := 1) (ret := (some .int)) (Qc := fun A => (va_Qi (fun (rv : Int32) (uu : Unit) => rv = nI dn ∧ True) (fun (uu : Unit) t9 => va_P D vwCl ([(m0, .inr (6, [.ref gA, .int (nI n), .ref tA, .int (nI w), .int (nI fo), .ref pA, .ref sA, .ref mA, .int ch, .int (nI ma), .ref npA, .ref nsA, .ref nmA, .int nc, .int (nI le), .ref lA, .int (nI dr), .ref dA, .int (nI dn)]))]) t9.heap) A)) (by decide) rfl (Nat.le_of_ble_eq_true rfl) ?_
  intro pr en s0 mi bl me co A hC hA hK hE H locs hP hD hS ls hl
  obtain ⟨hx, hb, hr, hml, hown, hts, hlocks, hin⟩ := id hC
  have hl : lv_has ls 1 [(0, .ref m0)] := hl
  refine lv_aload_n hx hb dX6_mappings_0 rfl (lv_at hl 0 rfl) ?_
  refine va_get (D := D) (ci := 6) (v := .int (nI dn)) (C := RX6) (T := TX6) (N := 19) hx hb hts (fun w h => List.mem_cons_of_mem _ (inUX6 w h)) hown hK hP 0 rfl rfl 18 (by decide) (hts _ (List.mem_cons_of_mem _ mw_456)) (fun _ h9 => h9) rfl dX6_mappings_1 ?_
  exact zIret hC hS () ⟨rfl, trivial⟩ hP (vp_nar_int _) dX6_mappings_4
set_option maxHeartbeats 4000000 in
set_option maxRecDepth 100000 in
theorem j_hit (l : Launch) (D : va_G) (cI cC : ClassId)  (m0 gA n tA w fo pA sA mA ma npA nsA nmA le lA dr dA dn : Nat) (ch nc : Int32) (i t : Nat) (pl sl ml : Nat → Nat) (hfo : fo ≤ 192) (hi : i < fo) (ht : t ≤ 3) (sz : Nat) : Met l yX6_hit wsX6_hit ({ frames := 0, cells := 0, slots := 0, locals := 0 } : Room) (zPre zE0 D vwCl [(cI, .int), (cC, .char)] [.ref m0, .int (nI i), .int (nI t)] [(m0, .inr (6, [.ref gA, .int (nI n), .ref tA, .int (nI w), .int (nI fo), .ref pA, .ref sA, .ref mA, .int ch, .int (nI ma), .ref npA, .ref nsA, .ref nmA, .int nc, .int (nI le), .ref lA, .int (nI dr), .ref dA, .int (nI dn)])), (pA, .inl (cI, 192, .inl (fun jj => nI (pl jj)))), (sA, .inl (cI, 192, .inl (fun jj => nI (sl jj)))), (mA, .inl (cI, 192, .inl (fun jj => nI (ml jj))))] sz) (va_Qi (fun (rv : Int32) (uu : Unit) => rv = zhit pl sl ml ch i t ∧ True) (fun (uu : Unit) t9 => va_P D vwCl ([(m0, .inr (6, [.ref gA, .int (nI n), .ref tA, .int (nI w), .int (nI fo), .ref pA, .ref sA, .ref mA, .int ch, .int (nI ma), .ref npA, .ref nsA, .ref nmA, .int nc, .int (nI le), .ref lA, .int (nI dr), .ref dA, .int (nI dn)])), (pA, .inl (cI, 192, .inl (fun jj => nI (pl jj)))), (sA, .inl (cI, 192, .inl (fun jj => nI (sl jj)))), (mA, .inl (cI, 192, .inl (fun jj => nI (ml jj))))]) t9.heap) (va_A [(m0, .inr (6, [.ref gA, .int (nI n), .ref tA, .int (nI w), .int (nI fo), .ref pA, .ref sA, .ref mA, .int ch, .int (nI ma), .ref npA, .ref nsA, .ref nmA, .int nc, .int (nI le), .ref lA, .int (nI dr), .ref dA, .int (nI dn)])), (pA, .inl (cI, 192, .inl (fun jj => nI (pl jj)))), (sA, .inl (cI, 192, .inl (fun jj => nI (sl jj)))), (mA, .inl (cI, 192, .inl (fun jj => nI (ml jj))))] sz)) 0 0 (va_A [(m0, .inr (6, [.ref gA, .int (nI n), .ref tA, .int (nI w), .int (nI fo), .ref pA, .ref sA, .ref mA, .int ch, .int (nI ma), .ref npA, .ref nsA, .ref nmA, .int nc, .int (nI le), .ref lA, .int (nI dr), .ref dA, .int (nI dn)])), (pA, .inl (cI, 192, .inl (fun jj => nI (pl jj)))), (sA, .inl (cI, 192, .inl (fun jj => nI (sl jj)))), (mA, .inl (cI, 192, .inl (fun jj => nI (ml jj))))] sz) := by
  refine zMet (cc := cX6_hit) (maxL := 3) (ret := (some .int)) (Qc := fun A => (va_Qi (fun (rv : Int32) (uu : Unit) => rv = zhit pl sl ml ch i t ∧ True) (fun (uu : Unit) t9 => va_P D vwCl ([(m0, .inr (6, [.ref gA, .int (nI n), .ref tA, .int (nI w), .int (nI fo), .ref pA, .ref sA, .ref mA, .int ch, .int (nI ma), .ref npA, .ref nsA, .ref nmA, .int nc, .int (nI le), .ref lA, .int (nI dr), .ref dA, .int (nI dn)])), (pA, .inl (cI, 192, .inl (fun jj => nI (pl jj)))), (sA, .inl (cI, 192, .inl (fun jj => nI (sl jj)))), (mA, .inl (cI, 192, .inl (fun jj => nI (ml jj))))]) t9.heap) A)) (by decide) rfl (Nat.le_of_ble_eq_true rfl) ?_
  intro pr en s0 mi bl me co A hC hA hK hE H locs hP hD hS ls hl
  obtain ⟨hx, hb, hr, hml, hown, hts, hlocks, hin⟩ := id hC
  have hl : lv_has ls 3 [(0, .ref m0), (1, .int (nI i)), (2, .int (nI t))] := hl
  refine lv_iload_n hx hb dX6_hit_0 rfl (lv_at hl 1 rfl) ?_
  refine zz_lt0 (tgt := 21) hx hb dX6_hit_1 (by decide) (by omega) ?_
  refine lv_iload_n hx hb dX6_hit_4 rfl (lv_at hl 1 rfl) ?_
  refine lv_aload_n hx hb dX6_hit_5 rfl (lv_at hl 0 rfl) ?_
  refine va_get (D := D) (ci := 6) (v := .int (nI fo)) (C := RX6) (T := TX6) (N := 19) hx hb hts (fun w h => List.mem_cons_of_mem _ (inUX6 w h)) hown hK hP 0 rfl rfl 4 (by decide) (hts _ (List.mem_cons_of_mem _ mw_442)) (fun _ h9 => h9) rfl dX6_hit_6 ?_
  refine zz_ge (tgt := 21) hx hb dX6_hit_9 (by decide) (by omega) (by omega) (fun c9 => ?_) (fun c9 => ?_)
  · skip
    exact absurd c9 (by omega)
  · skip
    refine lv_iload_n hx hb dX6_hit_12 rfl (lv_at hl 2 rfl) ?_
    refine zz_lt0 (tgt := 21) hx hb dX6_hit_13 (by decide) (by omega) ?_
    refine lv_iload_n hx hb dX6_hit_16 rfl (lv_at hl 2 rfl) ?_
    refine lv_iconst (v := nI 3) hx hb dX6_hit_17 (by decide) ?_
    refine zz_le (tgt := 24) hx hb dX6_hit_18 (by decide) (by omega) (by omega) (fun c18 => ?_) (fun c18 => ?_)
    · skip
      refine lv_iload_n hx hb dX6_hit_24 rfl (lv_at hl 2 rfl) ?_
      refine zz_ne0 (tgt := 37) hx hb dX6_hit_25 (by decide) (by omega) (fun c25 => ?_) (fun c25 => ?_)
      · skip
        refine lv_iload_n hx hb dX6_hit_37 rfl (lv_at hl 2 rfl) ?_
        refine lv_iconst (v := nI 1) hx hb dX6_hit_38 (by decide) ?_
        refine zz_ne (tgt := 51) hx hb dX6_hit_39 (by decide) (by omega) (by omega) (fun c39 => ?_) (fun c39 => ?_)
        · skip
          refine lv_iload_n hx hb dX6_hit_51 rfl (lv_at hl 2 rfl) ?_
          refine lv_iconst (v := nI 2) hx hb dX6_hit_52 (by decide) ?_
          refine zz_ne (tgt := 65) hx hb dX6_hit_53 (by decide) (by omega) (by omega) (fun c53 => ?_) (fun c53 => ?_)
          · skip
            refine lv_iload_n hx hb dX6_hit_65 rfl (lv_at hl 1 rfl) ?_
            refine lv_aload_n hx hb dX6_hit_66 rfl (lv_at hl 0 rfl) ?_
            refine va_get (D := D) (ci := 6) (v := .int ch) (C := RX6) (T := TX6) (N := 19) hx hb hts (fun w h => List.mem_cons_of_mem _ (inUX6 w h)) hown hK hP 0 rfl rfl 8 (by decide) (hts _ (List.mem_cons_of_mem _ mw_446)) (fun _ h9 => h9) rfl dX6_hit_67 ?_
            refine lv_icmp_ne (tgt := 77) hx hb dX6_hit_70 (by decide) (fun c70 => ?_) (fun c70 => ?_)
            · skip
              refine lv_iconst (v := nI 0) hx hb dX6_hit_77 (by decide) ?_
              exact zIret hC hS () ⟨by unfold zhit; first | rw [if_pos c25] | rw [if_neg c25, if_pos c39] | rw [if_neg c25, if_neg c39, if_pos c53] | rw [if_neg c25, if_neg c39, if_neg c53, if_pos c70] | rw [if_neg c25, if_neg c39, if_neg c53, if_neg c70], trivial⟩ hP (vp_nar_int _) dX6_hit_78
            · skip
              refine lv_iconst (v := nI 1) hx hb dX6_hit_73 (by decide) ?_
              refine lv_goto (tgt := 78) hx hb dX6_hit_74 (by decide) ?_
              exact zIret hC hS () ⟨by unfold zhit; first | rw [if_pos c25] | rw [if_neg c25, if_pos c39] | rw [if_neg c25, if_neg c39, if_pos c53] | rw [if_neg c25, if_neg c39, if_neg c53, if_pos c70] | rw [if_neg c25, if_neg c39, if_neg c53, if_neg c70], trivial⟩ hP (vp_nar_int _) dX6_hit_78
          · skip
            refine lv_aload_n hx hb dX6_hit_56 rfl (lv_at hl 0 rfl) ?_
            refine va_get (D := D) (ci := 6) (v := .ref mA) (C := RX6) (T := TX6) (N := 19) hx hb hts (fun w h => List.mem_cons_of_mem _ (inUX6 w h)) hown hK hP 0 rfl rfl 7 (by decide) (hts _ (List.mem_cons_of_mem _ mw_445)) (fun _ h9 => h9) rfl dX6_hit_57 ?_
            refine lv_iload_n hx hb dX6_hit_60 rfl (lv_at hl 1 rfl) ?_
            refine zz_iald (k := i) (f := ml) hx hb hK hP 3 0 rfl rfl (by omega) (by omega) dX6_hit_61 ?_
            refine lv_goto (tgt := 78) hx hb dX6_hit_62 (by decide) ?_
            exact zIret hC hS () ⟨by unfold zhit; first | rw [if_pos c25] | rw [if_neg c25, if_pos c39] | rw [if_neg c25, if_neg c39, if_pos c53] | rw [if_neg c25, if_neg c39, if_neg c53, if_pos c70] | rw [if_neg c25, if_neg c39, if_neg c53, if_neg c70], trivial⟩ hP (vp_nar_int _) dX6_hit_78
        · skip
          refine lv_aload_n hx hb dX6_hit_42 rfl (lv_at hl 0 rfl) ?_
          refine va_get (D := D) (ci := 6) (v := .ref sA) (C := RX6) (T := TX6) (N := 19) hx hb hts (fun w h => List.mem_cons_of_mem _ (inUX6 w h)) hown hK hP 0 rfl rfl 6 (by decide) (hts _ (List.mem_cons_of_mem _ mw_444)) (fun _ h9 => h9) rfl dX6_hit_43 ?_
          refine lv_iload_n hx hb dX6_hit_46 rfl (lv_at hl 1 rfl) ?_
          refine zz_iald (k := i) (f := sl) hx hb hK hP 2 0 rfl rfl (by omega) (by omega) dX6_hit_47 ?_
          refine lv_goto (tgt := 78) hx hb dX6_hit_48 (by decide) ?_
          exact zIret hC hS () ⟨by unfold zhit; first | rw [if_pos c25] | rw [if_neg c25, if_pos c39] | rw [if_neg c25, if_neg c39, if_pos c53] | rw [if_neg c25, if_neg c39, if_neg c53, if_pos c70] | rw [if_neg c25, if_neg c39, if_neg c53, if_neg c70], trivial⟩ hP (vp_nar_int _) dX6_hit_78
      · skip
        refine lv_aload_n hx hb dX6_hit_28 rfl (lv_at hl 0 rfl) ?_
        refine va_get (D := D) (ci := 6) (v := .ref pA) (C := RX6) (T := TX6) (N := 19) hx hb hts (fun w h => List.mem_cons_of_mem _ (inUX6 w h)) hown hK hP 0 rfl rfl 5 (by decide) (hts _ (List.mem_cons_of_mem _ mw_443)) (fun _ h9 => h9) rfl dX6_hit_29 ?_
        refine lv_iload_n hx hb dX6_hit_32 rfl (lv_at hl 1 rfl) ?_
        refine zz_iald (k := i) (f := pl) hx hb hK hP 1 0 rfl rfl (by omega) (by omega) dX6_hit_33 ?_
        refine lv_goto (tgt := 78) hx hb dX6_hit_34 (by decide) ?_
        exact zIret hC hS () ⟨by unfold zhit; first | rw [if_pos c25] | rw [if_neg c25, if_pos c39] | rw [if_neg c25, if_neg c39, if_pos c53] | rw [if_neg c25, if_neg c39, if_neg c53, if_pos c70] | rw [if_neg c25, if_neg c39, if_neg c53, if_neg c70], trivial⟩ hP (vp_nar_int _) dX6_hit_78
    · skip
      exact absurd c18 (by omega)
set_option maxHeartbeats 4000000 in
set_option maxRecDepth 100000 in
theorem j_hit0 (l : Launch) (D : va_G) (cI cC : ClassId)  (m0 gA n tA w fo pA sA mA ma npA nsA nmA le lA dr dA dn : Nat) (ch nc : Int32) (i t : Int32) (hfo : fo ≤ 192) (hbad : (i < 0 ∨ nI fo ≤ i) ∨ (t < 0 ∨ nI 3 < t)) (sz : Nat) : Met l yX6_hit wsX6_hit ({ frames := 0, cells := 0, slots := 0, locals := 0 } : Room) (zPre zE0 D vwCl [(cI, .int), (cC, .char)] [.ref m0, .int i, .int t] [(m0, .inr (6, [.ref gA, .int (nI n), .ref tA, .int (nI w), .int (nI fo), .ref pA, .ref sA, .ref mA, .int ch, .int (nI ma), .ref npA, .ref nsA, .ref nmA, .int nc, .int (nI le), .ref lA, .int (nI dr), .ref dA, .int (nI dn)]))] sz) (va_Qi (fun (rv : Int32) (uu : Unit) => rv = (-2) ∧ True) (fun (uu : Unit) t9 => va_P D vwCl ([(m0, .inr (6, [.ref gA, .int (nI n), .ref tA, .int (nI w), .int (nI fo), .ref pA, .ref sA, .ref mA, .int ch, .int (nI ma), .ref npA, .ref nsA, .ref nmA, .int nc, .int (nI le), .ref lA, .int (nI dr), .ref dA, .int (nI dn)]))]) t9.heap) (va_A [(m0, .inr (6, [.ref gA, .int (nI n), .ref tA, .int (nI w), .int (nI fo), .ref pA, .ref sA, .ref mA, .int ch, .int (nI ma), .ref npA, .ref nsA, .ref nmA, .int nc, .int (nI le), .ref lA, .int (nI dr), .ref dA, .int (nI dn)]))] sz)) 0 0 (va_A [(m0, .inr (6, [.ref gA, .int (nI n), .ref tA, .int (nI w), .int (nI fo), .ref pA, .ref sA, .ref mA, .int ch, .int (nI ma), .ref npA, .ref nsA, .ref nmA, .int nc, .int (nI le), .ref lA, .int (nI dr), .ref dA, .int (nI dn)]))] sz) := by
  refine zMet (cc := cX6_hit) (maxL := 3) (ret := (some .int)) (Qc := fun A => (va_Qi (fun (rv : Int32) (uu : Unit) => rv = (-2) ∧ True) (fun (uu : Unit) t9 => va_P D vwCl ([(m0, .inr (6, [.ref gA, .int (nI n), .ref tA, .int (nI w), .int (nI fo), .ref pA, .ref sA, .ref mA, .int ch, .int (nI ma), .ref npA, .ref nsA, .ref nmA, .int nc, .int (nI le), .ref lA, .int (nI dr), .ref dA, .int (nI dn)]))]) t9.heap) A)) (by decide) rfl (Nat.le_of_ble_eq_true rfl) ?_
  intro pr en s0 mi bl me co A hC hA hK hE H locs hP hD hS ls hl
  obtain ⟨hx, hb, hr, hml, hown, hts, hlocks, hin⟩ := id hC
  have hl : lv_has ls 3 [(0, .ref m0), (1, .int i), (2, .int t)] := hl
  refine lv_iload_n hx hb dX6_hit_0 rfl (lv_at hl 1 rfl) ?_
  refine lv_if_lt (tgt := 21) hx hb dX6_hit_1 (by decide) (fun c1 => ?_) (fun c1 => ?_)
  · skip
    refine lv_bipush (v := (-2)) hx hb dX6_hit_21 (by decide) ?_
    exact zIret hC hS () ⟨rfl, trivial⟩ hP (vp_nar_int _) dX6_hit_23
  · skip
    refine lv_iload_n hx hb dX6_hit_4 rfl (lv_at hl 1 rfl) ?_
    refine lv_aload_n hx hb dX6_hit_5 rfl (lv_at hl 0 rfl) ?_
    refine va_get (D := D) (ci := 6) (v := .int (nI fo)) (C := RX6) (T := TX6) (N := 19) hx hb hts (fun w h => List.mem_cons_of_mem _ (inUX6 w h)) hown hK hP 0 rfl rfl 4 (by decide) (hts _ (List.mem_cons_of_mem _ mw_442)) (fun _ h9 => h9) rfl dX6_hit_6 ?_
    refine lv_icmp_ge (tgt := 21) hx hb dX6_hit_9 (by decide) (fun c9 => ?_) (fun c9 => ?_)
    · skip
      refine lv_bipush (v := (-2)) hx hb dX6_hit_21 (by decide) ?_
      exact zIret hC hS () ⟨rfl, trivial⟩ hP (vp_nar_int _) dX6_hit_23
    · skip
      refine lv_iload_n hx hb dX6_hit_12 rfl (lv_at hl 2 rfl) ?_
      refine lv_if_lt (tgt := 21) hx hb dX6_hit_13 (by decide) (fun c13 => ?_) (fun c13 => ?_)
      · skip
        refine lv_bipush (v := (-2)) hx hb dX6_hit_21 (by decide) ?_
        exact zIret hC hS () ⟨rfl, trivial⟩ hP (vp_nar_int _) dX6_hit_23
      · skip
        refine lv_iload_n hx hb dX6_hit_16 rfl (lv_at hl 2 rfl) ?_
        refine lv_iconst (v := nI 3) hx hb dX6_hit_17 (by decide) ?_
        refine lv_icmp_le (tgt := 24) hx hb dX6_hit_18 (by decide) (fun c18 => ?_) (fun c18 => ?_)
        · skip
          exact absurd hbad (fun q => by rcases q with (q | q) | (q | q); exact c1 q; exact c9 q; exact c13 q; exact absurd q (Int32.not_lt.mpr c18))
        · skip
          refine lv_bipush (v := (-2)) hx hb dX6_hit_21 (by decide) ?_
          exact zIret hC hS () ⟨rfl, trivial⟩ hP (vp_nar_int _) dX6_hit_23
set_option maxHeartbeats 4000000 in
set_option maxRecDepth 100000 in
theorem j_at (l : Launch) (D : va_G) (cI cC : ClassId)  (m0 gA n tA w fo pA sA mA ma npA nsA nmA le lA dr dA dn : Nat) (ch nc : Int32) (k : Nat) (ln : Nat → Nat) (hle : le ≤ 1500) (hk : k < le) (sz : Nat) : Met l yX6_at wsX6_at ({ frames := 0, cells := 0, slots := 0, locals := 0 } : Room) (zPre zE0 D vwCl [(cI, .int), (cC, .char)] [.ref m0, .int (nI k)] [(m0, .inr (6, [.ref gA, .int (nI n), .ref tA, .int (nI w), .int (nI fo), .ref pA, .ref sA, .ref mA, .int ch, .int (nI ma), .ref npA, .ref nsA, .ref nmA, .int nc, .int (nI le), .ref lA, .int (nI dr), .ref dA, .int (nI dn)])), (lA, .inl (cC, 1500, .inl (fun jj => nI (ln jj))))] sz) (va_Qi (fun (rv : Int32) (uu : Unit) => rv = nI (ln k) ∧ True) (fun (uu : Unit) t9 => va_P D vwCl ([(m0, .inr (6, [.ref gA, .int (nI n), .ref tA, .int (nI w), .int (nI fo), .ref pA, .ref sA, .ref mA, .int ch, .int (nI ma), .ref npA, .ref nsA, .ref nmA, .int nc, .int (nI le), .ref lA, .int (nI dr), .ref dA, .int (nI dn)])), (lA, .inl (cC, 1500, .inl (fun jj => nI (ln jj))))]) t9.heap) (va_A [(m0, .inr (6, [.ref gA, .int (nI n), .ref tA, .int (nI w), .int (nI fo), .ref pA, .ref sA, .ref mA, .int ch, .int (nI ma), .ref npA, .ref nsA, .ref nmA, .int nc, .int (nI le), .ref lA, .int (nI dr), .ref dA, .int (nI dn)])), (lA, .inl (cC, 1500, .inl (fun jj => nI (ln jj))))] sz)) 0 0 (va_A [(m0, .inr (6, [.ref gA, .int (nI n), .ref tA, .int (nI w), .int (nI fo), .ref pA, .ref sA, .ref mA, .int ch, .int (nI ma), .ref npA, .ref nsA, .ref nmA, .int nc, .int (nI le), .ref lA, .int (nI dr), .ref dA, .int (nI dn)])), (lA, .inl (cC, 1500, .inl (fun jj => nI (ln jj))))] sz) := by
  refine zMet (cc := cX6_at) (maxL := 2) (ret := (some .int)) (Qc := fun A => (va_Qi (fun (rv : Int32) (uu : Unit) => rv = nI (ln k) ∧ True) (fun (uu : Unit) t9 => va_P D vwCl ([(m0, .inr (6, [.ref gA, .int (nI n), .ref tA, .int (nI w), .int (nI fo), .ref pA, .ref sA, .ref mA, .int ch, .int (nI ma), .ref npA, .ref nsA, .ref nmA, .int nc, .int (nI le), .ref lA, .int (nI dr), .ref dA, .int (nI dn)])), (lA, .inl (cC, 1500, .inl (fun jj => nI (ln jj))))]) t9.heap) A)) (by decide) rfl (Nat.le_of_ble_eq_true rfl) ?_
  intro pr en s0 mi bl me co A hC hA hK hE H locs hP hD hS ls hl
  obtain ⟨hx, hb, hr, hml, hown, hts, hlocks, hin⟩ := id hC
  have hl : lv_has ls 2 [(0, .ref m0), (1, .int (nI k))] := hl
  refine lv_iload_n hx hb dX6_at_0 rfl (lv_at hl 1 rfl) ?_
  refine zz_lt0 (tgt := 12) hx hb dX6_at_1 (by decide) (by omega) ?_
  refine lv_iload_n hx hb dX6_at_4 rfl (lv_at hl 1 rfl) ?_
  refine lv_aload_n hx hb dX6_at_5 rfl (lv_at hl 0 rfl) ?_
  refine va_get (D := D) (ci := 6) (v := .int (nI le)) (C := RX6) (T := TX6) (N := 19) hx hb hts (fun w h => List.mem_cons_of_mem _ (inUX6 w h)) hown hK hP 0 rfl rfl 14 (by decide) (hts _ (List.mem_cons_of_mem _ mw_452)) (fun _ h9 => h9) rfl dX6_at_6 ?_
  refine zz_lt (tgt := 16) hx hb dX6_at_9 (by decide) (by omega) (by omega) (fun c9 => ?_) (fun c9 => ?_)
  · skip
    refine lv_aload_n hx hb dX6_at_16 rfl (lv_at hl 0 rfl) ?_
    refine va_get (D := D) (ci := 6) (v := .ref lA) (C := RX6) (T := TX6) (N := 19) hx hb hts (fun w h => List.mem_cons_of_mem _ (inUX6 w h)) hown hK hP 0 rfl rfl 15 (by decide) (hts _ (List.mem_cons_of_mem _ mw_453)) (fun _ h9 => h9) rfl dX6_at_17 ?_
    refine lv_iload_n hx hb dX6_at_20 rfl (lv_at hl 1 rfl) ?_
    refine zz_cald (k := k) (f := ln) hx hb hK hP 1 1 rfl rfl (by omega) (by omega) dX6_at_21 ?_
    exact zIret hC hS () ⟨rfl, trivial⟩ hP (vp_nar_int _) dX6_at_22
  · skip
    exact absurd c9 (by omega)
set_option maxHeartbeats 4000000 in
set_option maxRecDepth 100000 in
theorem j_at0 (l : Launch) (D : va_G) (cI cC : ClassId)  (m0 gA n tA w fo pA sA mA ma npA nsA nmA le lA dr dA dn : Nat) (ch nc : Int32) (k : Int32) (hle : le ≤ 1500) (hbad : k < 0 ∨ nI le ≤ k) (sz : Nat) : Met l yX6_at wsX6_at ({ frames := 0, cells := 0, slots := 0, locals := 0 } : Room) (zPre zE0 D vwCl [(cI, .int), (cC, .char)] [.ref m0, .int k] [(m0, .inr (6, [.ref gA, .int (nI n), .ref tA, .int (nI w), .int (nI fo), .ref pA, .ref sA, .ref mA, .int ch, .int (nI ma), .ref npA, .ref nsA, .ref nmA, .int nc, .int (nI le), .ref lA, .int (nI dr), .ref dA, .int (nI dn)]))] sz) (va_Qi (fun (rv : Int32) (uu : Unit) => rv = (-1) ∧ True) (fun (uu : Unit) t9 => va_P D vwCl ([(m0, .inr (6, [.ref gA, .int (nI n), .ref tA, .int (nI w), .int (nI fo), .ref pA, .ref sA, .ref mA, .int ch, .int (nI ma), .ref npA, .ref nsA, .ref nmA, .int nc, .int (nI le), .ref lA, .int (nI dr), .ref dA, .int (nI dn)]))]) t9.heap) (va_A [(m0, .inr (6, [.ref gA, .int (nI n), .ref tA, .int (nI w), .int (nI fo), .ref pA, .ref sA, .ref mA, .int ch, .int (nI ma), .ref npA, .ref nsA, .ref nmA, .int nc, .int (nI le), .ref lA, .int (nI dr), .ref dA, .int (nI dn)]))] sz)) 0 0 (va_A [(m0, .inr (6, [.ref gA, .int (nI n), .ref tA, .int (nI w), .int (nI fo), .ref pA, .ref sA, .ref mA, .int ch, .int (nI ma), .ref npA, .ref nsA, .ref nmA, .int nc, .int (nI le), .ref lA, .int (nI dr), .ref dA, .int (nI dn)]))] sz) := by
  refine zMet (cc := cX6_at) (maxL := 2) (ret := (some .int)) (Qc := fun A => (va_Qi (fun (rv : Int32) (uu : Unit) => rv = (-1) ∧ True) (fun (uu : Unit) t9 => va_P D vwCl ([(m0, .inr (6, [.ref gA, .int (nI n), .ref tA, .int (nI w), .int (nI fo), .ref pA, .ref sA, .ref mA, .int ch, .int (nI ma), .ref npA, .ref nsA, .ref nmA, .int nc, .int (nI le), .ref lA, .int (nI dr), .ref dA, .int (nI dn)]))]) t9.heap) A)) (by decide) rfl (Nat.le_of_ble_eq_true rfl) ?_
  intro pr en s0 mi bl me co A hC hA hK hE H locs hP hD hS ls hl
  obtain ⟨hx, hb, hr, hml, hown, hts, hlocks, hin⟩ := id hC
  have hl : lv_has ls 2 [(0, .ref m0), (1, .int k)] := hl
  refine lv_iload_n hx hb dX6_at_0 rfl (lv_at hl 1 rfl) ?_
  refine lv_if_lt (tgt := 12) hx hb dX6_at_1 (by decide) (fun c1 => ?_) (fun c1 => ?_)
  · skip
    refine lv_iconst (v := (-1)) hx hb dX6_at_12 (by decide) ?_
    refine lv_goto (tgt := 22) hx hb dX6_at_13 (by decide) ?_
    exact zIret hC hS () ⟨rfl, trivial⟩ hP (vp_nar_int _) dX6_at_22
  · skip
    refine lv_iload_n hx hb dX6_at_4 rfl (lv_at hl 1 rfl) ?_
    refine lv_aload_n hx hb dX6_at_5 rfl (lv_at hl 0 rfl) ?_
    refine va_get (D := D) (ci := 6) (v := .int (nI le)) (C := RX6) (T := TX6) (N := 19) hx hb hts (fun w h => List.mem_cons_of_mem _ (inUX6 w h)) hown hK hP 0 rfl rfl 14 (by decide) (hts _ (List.mem_cons_of_mem _ mw_452)) (fun _ h9 => h9) rfl dX6_at_6 ?_
    refine lv_icmp_lt (tgt := 16) hx hb dX6_at_9 (by decide) (fun c9 => ?_) (fun c9 => ?_)
    · skip
      exact absurd hbad (fun q => by rcases q with q | q; exact c1 q; exact absurd c9 (Int32.not_lt.mpr q))
    · skip
      refine lv_iconst (v := (-1)) hx hb dX6_at_12 (by decide) ?_
      refine lv_goto (tgt := 22) hx hb dX6_at_13 (by decide) ?_
      exact zIret hC hS () ⟨rfl, trivial⟩ hP (vp_nar_int _) dX6_at_22
