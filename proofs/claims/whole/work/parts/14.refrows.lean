set_option maxHeartbeats 4000000 in
set_option maxRecDepth 100000 in
theorem j_weight (l : Launch) (D : va_G) (cI cC : ClassId)  (m0 gA n tA w fo pA sA mA ma npA nsA nmA le lA dr dA dn : Nat) (ch nc : Int32) (p : Nat) (g : Nat → Nat) (hn : n ≤ 96) (hg : ∀ i, g i ≤ 4) (hp : p ≤ 500) (sz : Nat) : Met l yX6_weight wsX6_weight ({ frames := 0, cells := 0, slots := 0, locals := 0 } : Room) (zPre zE0 D vwCl [(cI, .int), (cC, .char)] [.ref m0, .int (nI p)] [(m0, .inr (6, [.ref gA, .int (nI n), .ref tA, .int (nI w), .int (nI fo), .ref pA, .ref sA, .ref mA, .int ch, .int (nI ma), .ref npA, .ref nsA, .ref nmA, .int nc, .int (nI le), .ref lA, .int (nI dr), .ref dA, .int (nI dn)])), (gA, .inl (cI, 96, .inl (fun jj => nI (g jj))))] sz) (va_Qi (fun (rv : Int32) (uu : Unit) => rv = nI (zwt n g p) ∧ True) (fun (uu : Unit) t9 => va_P D vwCl ([(m0, .inr (6, [.ref gA, .int (nI n), .ref tA, .int (nI w), .int (nI fo), .ref pA, .ref sA, .ref mA, .int ch, .int (nI ma), .ref npA, .ref nsA, .ref nmA, .int nc, .int (nI le), .ref lA, .int (nI dr), .ref dA, .int (nI dn)])), (gA, .inl (cI, 96, .inl (fun jj => nI (g jj))))]) t9.heap) (va_A [(m0, .inr (6, [.ref gA, .int (nI n), .ref tA, .int (nI w), .int (nI fo), .ref pA, .ref sA, .ref mA, .int ch, .int (nI ma), .ref npA, .ref nsA, .ref nmA, .int nc, .int (nI le), .ref lA, .int (nI dr), .ref dA, .int (nI dn)])), (gA, .inl (cI, 96, .inl (fun jj => nI (g jj))))] sz)) 0 0 (va_A [(m0, .inr (6, [.ref gA, .int (nI n), .ref tA, .int (nI w), .int (nI fo), .ref pA, .ref sA, .ref mA, .int ch, .int (nI ma), .ref npA, .ref nsA, .ref nmA, .int nc, .int (nI le), .ref lA, .int (nI dr), .ref dA, .int (nI dn)])), (gA, .inl (cI, 96, .inl (fun jj => nI (g jj))))] sz) := by
  refine zMet (cc := cX6_weight) (maxL := 2) (ret := (some .int)) (Qc := fun A => (va_Qi (fun (rv : Int32) (uu : Unit) => rv = nI (zwt n g p) ∧ True) (fun (uu : Unit) t9 => va_P D vwCl ([(m0, .inr (6, [.ref gA, .int (nI n), .ref tA, .int (nI w), .int (nI fo), .ref pA, .ref sA, .ref mA, .int ch, .int (nI ma), .ref npA, .ref nsA, .ref nmA, .int nc, .int (nI le), .ref lA, .int (nI dr), .ref dA, .int (nI dn)])), (gA, .inl (cI, 96, .inl (fun jj => nI (g jj))))]) t9.heap) A)) (by decide) rfl (Nat.le_of_ble_eq_true rfl) ?_
  intro pr en s0 mi bl me co A hC hA hK hE H locs hP hD hS ls hl
  obtain ⟨hx, hb, hr, hml, hown, hts, hlocks, hin⟩ := id hC
  have hl : lv_has ls 2 [(0, .ref m0), (1, .int (nI p))] := hl
  refine lv_iload_n hx hb dX6_weight_0 rfl (lv_at hl 1 rfl) ?_
  refine lv_aload_n hx hb dX6_weight_1 rfl (lv_at hl 0 rfl) ?_
  refine va_get (D := D) (ci := 6) (v := .int (nI n)) (C := RX6) (T := TX6) (N := 19) hx hb hts (fun w h => List.mem_cons_of_mem _ (inUX6 w h)) hown hK hP 0 rfl rfl 1 (by decide) (hts _ (List.mem_cons_of_mem _ mw_439)) (fun _ h9 => h9) rfl dX6_weight_2 ?_
  refine zz_lt (tgt := 12) hx hb dX6_weight_5 (by decide) (by omega) (by omega) (fun c5 => ?_) (fun c5 => ?_)
  · skip
    refine lv_aload_n hx hb dX6_weight_12 rfl (lv_at hl 0 rfl) ?_
    refine va_get (D := D) (ci := 6) (v := .ref gA) (C := RX6) (T := TX6) (N := 19) hx hb hts (fun w h => List.mem_cons_of_mem _ (inUX6 w h)) hown hK hP 0 rfl rfl 0 (by decide) (hts _ (List.mem_cons_of_mem _ mw_438)) (fun _ h9 => h9) rfl dX6_weight_13 ?_
    refine lv_iload_n hx hb dX6_weight_16 rfl (lv_at hl 1 rfl) ?_
    refine zz_iald (k := p) (f := g) hx hb hK hP 1 0 rfl rfl (by omega) (by omega) dX6_weight_17 ?_
    refine lv_iconst (v := nI 1) hx hb dX6_weight_18 (by decide) ?_
    refine lv_iadd hx hb dX6_weight_19 ?_
    refine zz_top (y := nI (g p + 1)) (zadd (by omega)) ?_
    exact zIret hC hS () ⟨congrArg nI (by first | rw [zwt_out (by omega)] | rw [zwt_in (by omega)]), trivial⟩ hP (vp_nar_int _) dX6_weight_20
  · skip
    refine lv_iconst (v := nI 0) hx hb dX6_weight_8 (by decide) ?_
    refine lv_goto (tgt := 20) hx hb dX6_weight_9 (by decide) ?_
    exact zIret hC hS () ⟨congrArg nI (by first | rw [zwt_out (by omega)] | rw [zwt_in (by omega)]), trivial⟩ hP (vp_nar_int _) dX6_weight_20
set_option maxHeartbeats 4000000 in
set_option maxRecDepth 100000 in
theorem j_less_L2 {pr : Program} {en : Env} {s0 : State} {mi : MethodId} {bl : List Frame} {me : Method} {co : Code} {A : Nat → Prop} (l : Launch) (D : va_G) (cI cC : ClassId)  (m0 gA n tA w fo pA sA mA ma npA nsA nmA le lA dr dA dn : Nat) (ch nc : Int32) (p q : Nat) (g : Nat → Nat) (hn : n ≤ 96) (hg : ∀ i, g i ≤ 4) (hp : p ≤ 97) (hq : q ≤ 97) (hC : zK pr s0 mi ([.ref m0, .int (nI p), .int (nI q)] : List Value).toArray me co cX6_less 6 (some .boolean) yX6_less wsX6_less) (hA : ∀ q, s0.heap.size ≤ q → A q) (hK : va_K D vwCl [(cI, .int), (cC, .char)] s0) (hE : zE0 A s0 s0.heap) :
    ∀ (N : Nat) (k : Nat), 97 - k < N → (k ≤ 97) → (zkey n g p < zkey n g q ↔ zV n g (97 - k) (p + k) < zV n g (97 - k) (q + k)) → ∀ (H : Heap) (locs : List Loc), va_P D vwCl [(m0, .inr (6, [.ref gA, .int (nI n), .ref tA, .int (nI w), .int (nI fo), .ref pA, .ref sA, .ref mA, .int ch, .int (nI ma), .ref npA, .ref nsA, .ref nmA, .int nc, .int (nI le), .ref lA, .int (nI dr), .ref dA, .int (nI dn)])), (gA, .inl (cI, 96, .inl (fun jj => nI (g jj))))] H → va_D A [(m0, .inr (6, [.ref gA, .int (nI n), .ref tA, .int (nI w), .int (nI fo), .ref pA, .ref sA, .ref mA, .int ch, .int (nI ma), .ref npA, .ref nsA, .ref nmA, .int nc, .int (nI le), .ref lA, .int (nI dr), .ref dA, .int (nI dn)])), (gA, .inl (cI, 96, .inl (fun jj => nI (g jj))))] → va_S A s0.heap H locs → ∀ ls : Array Slot, lv_has ls 6 [(0, .ref m0), (1, .int (nI p)), (2, .int (nI q)), (3, .int (nI k))] → W pr l en ({ frames := 1, cells := 0, slots := 0, locals := 21 } : Room) s0 mi ([.ref m0, .int (nI p), .int (nI q)] : List Value).toArray bl me co H locs 0 0 (MQ bl (va_Qi (fun (rv : Int32) (uu : Unit) => rv = zb (zkey n g p < zkey n g q) ∧ True) (fun (uu : Unit) t9 => va_P D vwCl ([(m0, .inr (6, [.ref gA, .int (nI n), .ref tA, .int (nI w), .int (nI fo), .ref pA, .ref sA, .ref mA, .int ch, .int (nI ma), .ref npA, .ref nsA, .ref nmA, .int nc, .int (nI le), .ref lA, .int (nI dr), .ref dA, .int (nI dn)])), (gA, .inl (cI, 96, .inl (fun jj => nI (g jj))))]) t9.heap) A) ([.ref m0, .int (nI p), .int (nI q)] : List Value).toArray s0 0 0 A) (F0 mi 2 ls []) := by
  obtain ⟨hx, hb, hr, hml, hown, hts, hlocks, hin⟩ := id hC
  intro N
  induction N with
  | zero =>
    intro k hmea
    omega
  | succ N ih =>
    intro k hmea hk hv H locs hP hD hS ls hl
    refine lv_iload_n hx hb dX6_less_2 rfl (lv_at hl 3 rfl) ?_
    refine lv_bipush (v := nI 97) hx hb dX6_less_3 (by decide) ?_
    refine zz_ge (tgt := 59) hx hb dX6_less_5 (by decide) (by omega) (by omega) (fun c5 => ?_) (fun c5 => ?_)
    · skip
      refine lv_iconst (v := nI 0) hx hb dX6_less_59 (by decide) ?_
      exact zIret hC hS () ⟨(zb_f (by first | omega | (rw [show k = 97 by omega] at hv; exact fun q => Nat.lt_irrefl 0 (hv.mp q)))).symm, trivial⟩ hP (by decide) dX6_less_60
    · skip
      have e1 : zV n g (97 - k) (p + k) < zV n g (97 - k) (q + k) ↔ zwt n g (p + k) < zwt n g (q + k) ∨ (zwt n g (p + k) = zwt n g (q + k) ∧ zV n g (96 - k) (p + k + 1) < zV n g (96 - k) (q + k + 1)) := by
        rw [show 97 - k = 96 - k + 1 by omega, zV_s, zV_s]
        exact zdig_lt (zV_lt hg _ _) (zV_lt hg _ _)
      have b1 := zwt_le (n := n) hg (p + k)
      have b2 := zwt_le (n := n) hg (q + k)
      refine lv_aload_n hx hb dX6_less_8 rfl (lv_at hl 0 rfl) ?_
      refine lv_iload_n hx hb dX6_less_9 rfl (lv_at hl 1 rfl) ?_
      refine lv_iload_n hx hb dX6_less_10 rfl (lv_at hl 3 rfl) ?_
      refine lv_iadd hx hb dX6_less_11 ?_
      refine zz_top (y := nI (p + k)) (zadd (by omega)) ?_
      refine zCi (is := [0, 1]) (wf := (fun (uu : Unit) => ([(m0, .inr (6, [.ref gA, .int (nI n), .ref tA, .int (nI w), .int (nI fo), .ref pA, .ref sA, .ref mA, .int ch, .int (nI ma), .ref npA, .ref nsA, .ref nmA, .int nc, .int (nI le), .ref lA, .int (nI dr), .ref dA, .int (nI dn)])), (gA, .inl (cI, 96, .inl (fun jj => nI (g jj))))] : va_W))) (va_runV (As := [.int (nI (p + k))]) (rest := []) ⟨hx, hb, hml, hown, hts⟩ (j_weight l D cI cC  m0 gA n tA w fo pA sA mA ma npA nsA nmA le lA dr dA dn ch nc (p + k) g (by omega) hg (by omega) H.size) (cwV 1 hts (zgood mw_532 mw_534 mw_7 mw_32 mw_535) rfl rfl rfl (by decide +kernel) ⟨Nat.le_of_ble_eq_true rfl, Nat.le_of_ble_eq_true rfl⟩) ⟨zBlind zE0_ok, va_recv hK hP (ci := 6) (q0 := 0) rfl rfl, zAt (av := [.ref m0, .int (nI (p + k))]) zE0_ok hP hD hK hS hA trivial [0, 1] rfl (by decide)⟩ rfl rfl hl.1 rfl (lv_room (Nat.le_of_ble_eq_true rfl)) dX6_less_12 ⟨Nat.zero_le _, Nat.zero_le _⟩) hP hD hS hA rfl (fun _ => rfl) (fun r12 u12 H locs w12 hP hD hS => ?_)
      obtain ⟨rfl, w12⟩ := w12
      have hP : va_P D vwCl [(m0, .inr (6, [.ref gA, .int (nI n), .ref tA, .int (nI w), .int (nI fo), .ref pA, .ref sA, .ref mA, .int ch, .int (nI ma), .ref npA, .ref nsA, .ref nmA, .int nc, .int (nI le), .ref lA, .int (nI dr), .ref dA, .int (nI dn)])), (gA, .inl (cI, 96, .inl (fun jj => nI (g jj))))] H := hP
      have hD : va_D A [(m0, .inr (6, [.ref gA, .int (nI n), .ref tA, .int (nI w), .int (nI fo), .ref pA, .ref sA, .ref mA, .int ch, .int (nI ma), .ref npA, .ref nsA, .ref nmA, .int nc, .int (nI le), .ref lA, .int (nI dr), .ref dA, .int (nI dn)])), (gA, .inl (cI, 96, .inl (fun jj => nI (g jj))))] := hD
      refine lv_istore (lv' := [(4, .int (nI (zwt n g (p + k)))), (0, .ref m0), (1, .int (nI p)), (2, .int (nI q)), (3, .int (nI k))]) hx hb dX6_less_15 hl (by decide) rfl (fun ls hl => ?_)
      refine lv_aload_n hx hb dX6_less_17 rfl (lv_at hl 1 rfl) ?_
      refine lv_iload_n hx hb dX6_less_18 rfl (lv_at hl 3 rfl) ?_
      refine lv_iload_n hx hb dX6_less_19 rfl (lv_at hl 4 rfl) ?_
      refine lv_iadd hx hb dX6_less_20 ?_
      refine zz_top (y := nI (q + k)) (zadd (by omega)) ?_
      refine zCi (is := [0, 1]) (wf := (fun (uu : Unit) => ([(m0, .inr (6, [.ref gA, .int (nI n), .ref tA, .int (nI w), .int (nI fo), .ref pA, .ref sA, .ref mA, .int ch, .int (nI ma), .ref npA, .ref nsA, .ref nmA, .int nc, .int (nI le), .ref lA, .int (nI dr), .ref dA, .int (nI dn)])), (gA, .inl (cI, 96, .inl (fun jj => nI (g jj))))] : va_W))) (va_runV (As := [.int (nI (q + k))]) (rest := []) ⟨hx, hb, hml, hown, hts⟩ (j_weight l D cI cC  m0 gA n tA w fo pA sA mA ma npA nsA nmA le lA dr dA dn ch nc (q + k) g (by omega) hg (by omega) H.size) (cwV 1 hts (zgood mw_532 mw_534 mw_7 mw_32 mw_535) rfl rfl rfl (by decide +kernel) ⟨Nat.le_of_ble_eq_true rfl, Nat.le_of_ble_eq_true rfl⟩) ⟨zBlind zE0_ok, va_recv hK hP (ci := 6) (q0 := 0) rfl rfl, zAt (av := [.ref m0, .int (nI (q + k))]) zE0_ok hP hD hK hS hA trivial [0, 1] rfl (by decide)⟩ rfl rfl hl.1 rfl (lv_room (Nat.le_of_ble_eq_true rfl)) dX6_less_21 ⟨Nat.zero_le _, Nat.zero_le _⟩) hP hD hS hA rfl (fun _ => rfl) (fun r21 u21 H locs w21 hP hD hS => ?_)
      obtain ⟨rfl, w21⟩ := w21
      have hP : va_P D vwCl [(m0, .inr (6, [.ref gA, .int (nI n), .ref tA, .int (nI w), .int (nI fo), .ref pA, .ref sA, .ref mA, .int ch, .int (nI ma), .ref npA, .ref nsA, .ref nmA, .int nc, .int (nI le), .ref lA, .int (nI dr), .ref dA, .int (nI dn)])), (gA, .inl (cI, 96, .inl (fun jj => nI (g jj))))] H := hP
      have hD : va_D A [(m0, .inr (6, [.ref gA, .int (nI n), .ref tA, .int (nI w), .int (nI fo), .ref pA, .ref sA, .ref mA, .int ch, .int (nI ma), .ref npA, .ref nsA, .ref nmA, .int nc, .int (nI le), .ref lA, .int (nI dr), .ref dA, .int (nI dn)])), (gA, .inl (cI, 96, .inl (fun jj => nI (g jj))))] := hD
      refine lv_istore (lv' := [(5, .int (nI (zwt n g (q + k)))), (4, .int (nI (zwt n g (p + k)))), (0, .ref m0), (1, .int (nI p)), (2, .int (nI q)), (3, .int (nI k))]) hx hb dX6_less_24 hl (by decide) rfl (fun ls hl => ?_)
      refine lv_iload hx hb dX6_less_26 (lv_at hl 1 rfl) ?_
      refine lv_iload hx hb dX6_less_28 (lv_at hl 0 rfl) ?_
      refine zz_eq (tgt := 46) hx hb dX6_less_30 (by decide) (by omega) (by omega) (fun c30 => ?_) (fun c30 => ?_)
      · skip
        refine lv_iload hx hb dX6_less_46 (lv_at hl 1 rfl) ?_
        refine zz_ne0 (tgt := 53) hx hb dX6_less_48 (by decide) (by omega) (fun c48 => ?_) (fun c48 => ?_)
        · skip
          refine lv_iinc (v := nI (k + 1)) (lv' := [(3, .int (nI (k + 1))), (5, .int (nI (zwt n g (q + k)))), (4, .int (nI (zwt n g (p + k)))), (0, .ref m0), (1, .int (nI p)), (2, .int (nI q))]) hx hb dX6_less_53 hl (k := 5) rfl (zincE (by omega)) (by decide) rfl (fun ls hl => ?_)
          refine lv_goto (tgt := 2) hx hb dX6_less_56 (by decide) ?_
          exact ih (k + 1) (by omega) (by omega) (by rw [show 97 - (k + 1) = 96 - k by omega, show p + (k + 1) = p + k + 1 by omega, show q + (k + 1) = q + k + 1 by omega]; omega) _ _ hP hD hS ls (lv_sub hl [3, 4, 5, 0] rfl)
        · skip
          have e2 : zV n g (96 - k) (p + k + 1) = 0 := zV_out _ _ (by have := zwt_zero c48; omega)
          have e3 : zV n g (96 - k) (q + k + 1) = 0 := zV_out _ _ (by have := zwt_zero (c30.symm.trans c48); omega)
          refine lv_iconst (v := nI 0) hx hb dX6_less_51 (by decide) ?_
          exact zIret hC hS () ⟨(zb_f (by first | omega | (rw [show k = 97 by omega] at hv; exact fun q => Nat.lt_irrefl 0 (hv.mp q)))).symm, trivial⟩ hP (by decide) dX6_less_52
      · skip
        refine lv_iload hx hb dX6_less_33 (lv_at hl 1 rfl) ?_
        refine lv_iload hx hb dX6_less_35 (lv_at hl 0 rfl) ?_
        refine zz_ge (tgt := 44) hx hb dX6_less_37 (by decide) (by omega) (by omega) (fun c37 => ?_) (fun c37 => ?_)
        · skip
          refine lv_iconst (v := nI 0) hx hb dX6_less_44 (by decide) ?_
          exact zIret hC hS () ⟨(zb_f (by first | omega | (rw [show k = 97 by omega] at hv; exact fun q => Nat.lt_irrefl 0 (hv.mp q)))).symm, trivial⟩ hP (by decide) dX6_less_45
        · skip
          refine lv_iconst (v := nI 1) hx hb dX6_less_40 (by decide) ?_
          refine lv_goto (tgt := 45) hx hb dX6_less_41 (by decide) ?_
          exact zIret hC hS () ⟨(zb_t (by omega)).symm, trivial⟩ hP (by decide) dX6_less_45
set_option maxHeartbeats 4000000 in
set_option maxRecDepth 100000 in
theorem j_less (l : Launch) (D : va_G) (cI cC : ClassId)  (m0 gA n tA w fo pA sA mA ma npA nsA nmA le lA dr dA dn : Nat) (ch nc : Int32) (p q : Nat) (g : Nat → Nat) (hn : n ≤ 96) (hg : ∀ i, g i ≤ 4) (hp : p ≤ 97) (hq : q ≤ 97) (sz : Nat) : Met l yX6_less wsX6_less ({ frames := 1, cells := 0, slots := 0, locals := 21 } : Room) (zPre zE0 D vwCl [(cI, .int), (cC, .char)] [.ref m0, .int (nI p), .int (nI q)] [(m0, .inr (6, [.ref gA, .int (nI n), .ref tA, .int (nI w), .int (nI fo), .ref pA, .ref sA, .ref mA, .int ch, .int (nI ma), .ref npA, .ref nsA, .ref nmA, .int nc, .int (nI le), .ref lA, .int (nI dr), .ref dA, .int (nI dn)])), (gA, .inl (cI, 96, .inl (fun jj => nI (g jj))))] sz) (va_Qi (fun (rv : Int32) (uu : Unit) => rv = zb (zkey n g p < zkey n g q) ∧ True) (fun (uu : Unit) t9 => va_P D vwCl ([(m0, .inr (6, [.ref gA, .int (nI n), .ref tA, .int (nI w), .int (nI fo), .ref pA, .ref sA, .ref mA, .int ch, .int (nI ma), .ref npA, .ref nsA, .ref nmA, .int nc, .int (nI le), .ref lA, .int (nI dr), .ref dA, .int (nI dn)])), (gA, .inl (cI, 96, .inl (fun jj => nI (g jj))))]) t9.heap) (va_A [(m0, .inr (6, [.ref gA, .int (nI n), .ref tA, .int (nI w), .int (nI fo), .ref pA, .ref sA, .ref mA, .int ch, .int (nI ma), .ref npA, .ref nsA, .ref nmA, .int nc, .int (nI le), .ref lA, .int (nI dr), .ref dA, .int (nI dn)])), (gA, .inl (cI, 96, .inl (fun jj => nI (g jj))))] sz)) 0 0 (va_A [(m0, .inr (6, [.ref gA, .int (nI n), .ref tA, .int (nI w), .int (nI fo), .ref pA, .ref sA, .ref mA, .int ch, .int (nI ma), .ref npA, .ref nsA, .ref nmA, .int nc, .int (nI le), .ref lA, .int (nI dr), .ref dA, .int (nI dn)])), (gA, .inl (cI, 96, .inl (fun jj => nI (g jj))))] sz) := by
  refine zMet (cc := cX6_less) (maxL := 6) (ret := (some .boolean)) (Qc := fun A => (va_Qi (fun (rv : Int32) (uu : Unit) => rv = zb (zkey n g p < zkey n g q) ∧ True) (fun (uu : Unit) t9 => va_P D vwCl ([(m0, .inr (6, [.ref gA, .int (nI n), .ref tA, .int (nI w), .int (nI fo), .ref pA, .ref sA, .ref mA, .int ch, .int (nI ma), .ref npA, .ref nsA, .ref nmA, .int nc, .int (nI le), .ref lA, .int (nI dr), .ref dA, .int (nI dn)])), (gA, .inl (cI, 96, .inl (fun jj => nI (g jj))))]) t9.heap) A)) (by decide) rfl (Nat.le_of_ble_eq_true rfl) ?_
  intro pr en s0 mi bl me co A hC hA hK hE H locs hP hD hS ls hl
  obtain ⟨hx, hb, hr, hml, hown, hts, hlocks, hin⟩ := id hC
  have hl : lv_has ls 6 [(0, .ref m0), (1, .int (nI p)), (2, .int (nI q))] := hl
  refine lv_iconst (v := nI 0) hx hb dX6_less_0 (by decide) ?_
  refine lv_istore_n (lv' := [(3, .int (nI 0)), (0, .ref m0), (1, .int (nI p)), (2, .int (nI q))]) hx hb dX6_less_1 rfl hl (by decide) rfl (fun ls hl => ?_)
  exact j_less_L2 l D cI cC  m0 gA n tA w fo pA sA mA ma npA nsA nmA le lA dr dA dn ch nc p q g hn hg hp hq hC hA hK hE _ 0 (Nat.lt_succ_self _) (Nat.zero_le _) (by rw [zkey_eq, zkey_eq, Nat.sub_zero, Nat.add_zero, Nat.add_zero]) _ _ hP hD hS ls (lv_sub hl [1, 2, 3, 0] rfl)
set_option maxHeartbeats 4000000 in
set_option maxRecDepth 100000 in
theorem j_before_L4 {pr : Program} {en : Env} {s0 : State} {mi : MethodId} {bl : List Frame} {me : Method} {co : Code} {A : Nat → Prop} (l : Launch) (D : va_G) (cI cC : ClassId)  (m0 gA n tA w fo pA sA mA ma npA nsA nmA le lA dr dA dn : Nat) (ch nc : Int32) (p : Nat) (g : Nat → Nat) (hn : n ≤ 96) (hg : ∀ i, g i ≤ 4) (hp : p ≤ n) (hC : zK pr s0 mi ([.ref m0, .int (nI p)] : List Value).toArray me co cX6_before 4 (some .int) yX6_before wsX6_before) (hA : ∀ q, s0.heap.size ≤ q → A q) (hK : va_K D vwCl [(cI, .int), (cC, .char)] s0) (hE : zE0 A s0 s0.heap) :
    ∀ (N : Nat) (k x : Nat), n + 1 - k < N → (k ≤ n + 1) → (x = zcnt (fun r => decide (0 ≤ r ∧ zkey n g r < zkey n g p)) k) → ∀ (H : Heap) (locs : List Loc), va_P D vwCl [(m0, .inr (6, [.ref gA, .int (nI n), .ref tA, .int (nI w), .int (nI fo), .ref pA, .ref sA, .ref mA, .int ch, .int (nI ma), .ref npA, .ref nsA, .ref nmA, .int nc, .int (nI le), .ref lA, .int (nI dr), .ref dA, .int (nI dn)])), (gA, .inl (cI, 96, .inl (fun jj => nI (g jj))))] H → va_D A [(m0, .inr (6, [.ref gA, .int (nI n), .ref tA, .int (nI w), .int (nI fo), .ref pA, .ref sA, .ref mA, .int ch, .int (nI ma), .ref npA, .ref nsA, .ref nmA, .int nc, .int (nI le), .ref lA, .int (nI dr), .ref dA, .int (nI dn)])), (gA, .inl (cI, 96, .inl (fun jj => nI (g jj))))] → va_S A s0.heap H locs → ∀ ls : Array Slot, lv_has ls 4 [(0, .ref m0), (1, .int (nI p)), (2, .int (nI x)), (3, .int (nI k))] → W pr l en ({ frames := 2, cells := 0, slots := 0, locals := 46 } : Room) s0 mi ([.ref m0, .int (nI p)] : List Value).toArray bl me co H locs 0 0 (MQ bl (va_Qi (fun (rv : Int32) (uu : Unit) => rv = nI (zbef n g p) ∧ True) (fun (uu : Unit) t9 => va_P D vwCl ([(m0, .inr (6, [.ref gA, .int (nI n), .ref tA, .int (nI w), .int (nI fo), .ref pA, .ref sA, .ref mA, .int ch, .int (nI ma), .ref npA, .ref nsA, .ref nmA, .int nc, .int (nI le), .ref lA, .int (nI dr), .ref dA, .int (nI dn)])), (gA, .inl (cI, 96, .inl (fun jj => nI (g jj))))]) t9.heap) A) ([.ref m0, .int (nI p)] : List Value).toArray s0 0 0 A) (F0 mi 4 ls []) := by
  obtain ⟨hx, hb, hr, hml, hown, hts, hlocks, hin⟩ := id hC
  intro N
  induction N with
  | zero =>
    intro k x hmea
    omega
  | succ N ih =>
    intro k x hmea hk hxk H locs hP hD hS ls hl
    refine lv_iload_n hx hb dX6_before_4 rfl (lv_at hl 3 rfl) ?_
    refine lv_aload_n hx hb dX6_before_5 rfl (lv_at hl 0 rfl) ?_
    refine va_get (D := D) (ci := 6) (v := .int (nI n)) (C := RX6) (T := TX6) (N := 19) hx hb hts (fun w h => List.mem_cons_of_mem _ (inUX6 w h)) hown hK hP 0 rfl rfl 1 (by decide) (hts _ (List.mem_cons_of_mem _ mw_439)) (fun _ h9 => h9) rfl dX6_before_6 ?_
    refine zz_gt (tgt := 35) hx hb dX6_before_9 (by decide) (by omega) (by omega) (fun c9 => ?_) (fun c9 => ?_)
    · skip
      refine lv_iload_n hx hb dX6_before_35 rfl (lv_at hl 2 rfl) ?_
      exact zIret hC hS () ⟨congrArg nI (by rw [hxk, show k = n + 1 by omega]; rfl), trivial⟩ hP (vp_nar_int _) dX6_before_36
    · skip
      have e8 := zcnt_le (fun r => decide (0 ≤ r ∧ zkey n g r < zkey n g p)) k
      refine lv_aload_n hx hb dX6_before_12 rfl (lv_at hl 0 rfl) ?_
      refine lv_iload_n hx hb dX6_before_13 rfl (lv_at hl 3 rfl) ?_
      refine lv_iload_n hx hb dX6_before_14 rfl (lv_at hl 1 rfl) ?_
      refine zCi (is := [0, 1]) (wf := (fun (uu : Unit) => ([(m0, .inr (6, [.ref gA, .int (nI n), .ref tA, .int (nI w), .int (nI fo), .ref pA, .ref sA, .ref mA, .int ch, .int (nI ma), .ref npA, .ref nsA, .ref nmA, .int nc, .int (nI le), .ref lA, .int (nI dr), .ref dA, .int (nI dn)])), (gA, .inl (cI, 96, .inl (fun jj => nI (g jj))))] : va_W))) (va_runV (As := [.int (nI k), .int (nI p)]) (rest := []) ⟨hx, hb, hml, hown, hts⟩ (j_less l D cI cC  m0 gA n tA w fo pA sA mA ma npA nsA nmA le lA dr dA dn ch nc k p g (by omega) hg (by omega) (by omega) H.size) (cwV 2 hts (zgood mw_528 mw_530 mw_6 mw_32 mw_531) rfl rfl rfl (by decide +kernel) ⟨Nat.le_of_ble_eq_true rfl, Nat.le_of_ble_eq_true rfl⟩) ⟨zBlind zE0_ok, va_recv hK hP (ci := 6) (q0 := 0) rfl rfl, zAt (av := [.ref m0, .int (nI k), .int (nI p)]) zE0_ok hP hD hK hS hA trivial [0, 1] rfl (by decide)⟩ rfl rfl hl.1 rfl (lv_room (Nat.le_of_ble_eq_true rfl)) dX6_before_15 ⟨Nat.zero_le _, Nat.zero_le _⟩) hP hD hS hA rfl (fun _ => rfl) (fun r15 u15 H locs w15 hP hD hS => ?_)
      obtain ⟨rfl, w15⟩ := w15
      have hP : va_P D vwCl [(m0, .inr (6, [.ref gA, .int (nI n), .ref tA, .int (nI w), .int (nI fo), .ref pA, .ref sA, .ref mA, .int ch, .int (nI ma), .ref npA, .ref nsA, .ref nmA, .int nc, .int (nI le), .ref lA, .int (nI dr), .ref dA, .int (nI dn)])), (gA, .inl (cI, 96, .inl (fun jj => nI (g jj))))] H := hP
      have hD : va_D A [(m0, .inr (6, [.ref gA, .int (nI n), .ref tA, .int (nI w), .int (nI fo), .ref pA, .ref sA, .ref mA, .int ch, .int (nI ma), .ref npA, .ref nsA, .ref nmA, .int nc, .int (nI le), .ref lA, .int (nI dr), .ref dA, .int (nI dn)])), (gA, .inl (cI, 96, .inl (fun jj => nI (g jj))))] := hD
      refine zz_eqb (tgt := 27) hx hb dX6_before_18 (by decide) (fun c18 => ?_) (fun c18 => ?_)
      · skip
        refine lv_iload_n hx hb dX6_before_27 rfl (lv_at hl 2 rfl) ?_
        refine lv_istore_n (lv' := [(2, .int (nI x)), (0, .ref m0), (1, .int (nI p)), (3, .int (nI k))]) hx hb dX6_before_28 rfl hl (by decide) rfl (fun ls hl => ?_)
        refine lv_iinc (v := nI (k + 1)) (lv' := [(3, .int (nI (k + 1))), (2, .int (nI x)), (0, .ref m0), (1, .int (nI p))]) hx hb dX6_before_29 hl (k := 3) rfl (zincE (by omega)) (by decide) rfl (fun ls hl => ?_)
        refine lv_goto (tgt := 4) hx hb dX6_before_32 (by decide) ?_
        exact ih (k + 1) x (by omega) (by omega) (by first | (rw [zcnt_t (by simp only [decide_eq_true_eq]; omega)]; omega) | (rw [zcnt_f (by simp only [decide_eq_true_eq]; omega)]; omega)) _ _ hP hD hS ls (lv_sub hl [2, 3, 1, 0] rfl)
      · skip
        refine lv_iload_n hx hb dX6_before_21 rfl (lv_at hl 2 rfl) ?_
        refine lv_iconst (v := nI 1) hx hb dX6_before_22 (by decide) ?_
        refine lv_iadd hx hb dX6_before_23 ?_
        refine zz_top (y := nI (x + 1)) (zadd (by omega)) ?_
        refine lv_goto (tgt := 28) hx hb dX6_before_24 (by decide) ?_
        refine lv_istore_n (lv' := [(2, .int (nI (x + 1))), (0, .ref m0), (1, .int (nI p)), (3, .int (nI k))]) hx hb dX6_before_28 rfl hl (by decide) rfl (fun ls hl => ?_)
        refine lv_iinc (v := nI (k + 1)) (lv' := [(3, .int (nI (k + 1))), (2, .int (nI (x + 1))), (0, .ref m0), (1, .int (nI p))]) hx hb dX6_before_29 hl (k := 3) rfl (zincE (by omega)) (by decide) rfl (fun ls hl => ?_)
        refine lv_goto (tgt := 4) hx hb dX6_before_32 (by decide) ?_
        exact ih (k + 1) (x + 1) (by omega) (by omega) (by first | (rw [zcnt_t (by simp only [decide_eq_true_eq]; omega)]; omega) | (rw [zcnt_f (by simp only [decide_eq_true_eq]; omega)]; omega)) _ _ hP hD hS ls (lv_sub hl [2, 3, 1, 0] rfl)
set_option maxHeartbeats 4000000 in
set_option maxRecDepth 100000 in
theorem j_before (l : Launch) (D : va_G) (cI cC : ClassId)  (m0 gA n tA w fo pA sA mA ma npA nsA nmA le lA dr dA dn : Nat) (ch nc : Int32) (p : Nat) (g : Nat → Nat) (hn : n ≤ 96) (hg : ∀ i, g i ≤ 4) (hp : p ≤ n) (sz : Nat) : Met l yX6_before wsX6_before ({ frames := 2, cells := 0, slots := 0, locals := 46 } : Room) (zPre zE0 D vwCl [(cI, .int), (cC, .char)] [.ref m0, .int (nI p)] [(m0, .inr (6, [.ref gA, .int (nI n), .ref tA, .int (nI w), .int (nI fo), .ref pA, .ref sA, .ref mA, .int ch, .int (nI ma), .ref npA, .ref nsA, .ref nmA, .int nc, .int (nI le), .ref lA, .int (nI dr), .ref dA, .int (nI dn)])), (gA, .inl (cI, 96, .inl (fun jj => nI (g jj))))] sz) (va_Qi (fun (rv : Int32) (uu : Unit) => rv = nI (zbef n g p) ∧ True) (fun (uu : Unit) t9 => va_P D vwCl ([(m0, .inr (6, [.ref gA, .int (nI n), .ref tA, .int (nI w), .int (nI fo), .ref pA, .ref sA, .ref mA, .int ch, .int (nI ma), .ref npA, .ref nsA, .ref nmA, .int nc, .int (nI le), .ref lA, .int (nI dr), .ref dA, .int (nI dn)])), (gA, .inl (cI, 96, .inl (fun jj => nI (g jj))))]) t9.heap) (va_A [(m0, .inr (6, [.ref gA, .int (nI n), .ref tA, .int (nI w), .int (nI fo), .ref pA, .ref sA, .ref mA, .int ch, .int (nI ma), .ref npA, .ref nsA, .ref nmA, .int nc, .int (nI le), .ref lA, .int (nI dr), .ref dA, .int (nI dn)])), (gA, .inl (cI, 96, .inl (fun jj => nI (g jj))))] sz)) 0 0 (va_A [(m0, .inr (6, [.ref gA, .int (nI n), .ref tA, .int (nI w), .int (nI fo), .ref pA, .ref sA, .ref mA, .int ch, .int (nI ma), .ref npA, .ref nsA, .ref nmA, .int nc, .int (nI le), .ref lA, .int (nI dr), .ref dA, .int (nI dn)])), (gA, .inl (cI, 96, .inl (fun jj => nI (g jj))))] sz) := by
  refine zMet (cc := cX6_before) (maxL := 4) (ret := (some .int)) (Qc := fun A => (va_Qi (fun (rv : Int32) (uu : Unit) => rv = nI (zbef n g p) ∧ True) (fun (uu : Unit) t9 => va_P D vwCl ([(m0, .inr (6, [.ref gA, .int (nI n), .ref tA, .int (nI w), .int (nI fo), .ref pA, .ref sA, .ref mA, .int ch, .int (nI ma), .ref npA, .ref nsA, .ref nmA, .int nc, .int (nI le), .ref lA, .int (nI dr), .ref dA, .int (nI dn)])), (gA, .inl (cI, 96, .inl (fun jj => nI (g jj))))]) t9.heap) A)) (by decide) rfl (Nat.le_of_ble_eq_true rfl) ?_
  intro pr en s0 mi bl me co A hC hA hK hE H locs hP hD hS ls hl
  obtain ⟨hx, hb, hr, hml, hown, hts, hlocks, hin⟩ := id hC
  have hl : lv_has ls 4 [(0, .ref m0), (1, .int (nI p))] := hl
  refine lv_iconst (v := nI 0) hx hb dX6_before_0 (by decide) ?_
  refine lv_istore_n (lv' := [(2, .int (nI 0)), (0, .ref m0), (1, .int (nI p))]) hx hb dX6_before_1 rfl hl (by decide) rfl (fun ls hl => ?_)
  refine lv_iconst (v := nI 0) hx hb dX6_before_2 (by decide) ?_
  refine lv_istore_n (lv' := [(3, .int (nI 0)), (2, .int (nI 0)), (0, .ref m0), (1, .int (nI p))]) hx hb dX6_before_3 rfl hl (by decide) rfl (fun ls hl => ?_)
  exact j_before_L4 l D cI cC  m0 gA n tA w fo pA sA mA ma npA nsA nmA le lA dr dA dn ch nc p g hn hg hp hC hA hK hE _ 0 0 (Nat.lt_succ_self _) (Nat.zero_le _) rfl _ _ hP hD hS ls (lv_sub hl [2, 3, 1, 0] rfl)
set_option maxHeartbeats 4000000 in
set_option maxRecDepth 100000 in
theorem j_row_L2 {pr : Program} {en : Env} {s0 : State} {mi : MethodId} {bl : List Frame} {me : Method} {co : Code} {A : Nat → Prop} (l : Launch) (D : va_G) (cI cC : ClassId)  (m0 gA n tA w fo pA sA mA ma npA nsA nmA le lA dr dA dn : Nat) (ch nc : Int32) (i : Int32) (g : Nat → Nat) (hn : n ≤ 96) (hg : ∀ i, g i ≤ 4) (hC : zK pr s0 mi ([.ref m0, .int i] : List Value).toArray me co cX6_row 3 (some .int) yX6_row wsX6_row) (hA : ∀ q, s0.heap.size ≤ q → A q) (hK : va_K D vwCl [(cI, .int), (cC, .char)] s0) (hE : zE0 A s0 s0.heap) :
    ∀ (N : Nat) (k : Nat), n + 1 - k < N → (k ≤ n + 1) → (∀ q, q < k → ¬ i = nI (zbef n g q)) → ∀ (H : Heap) (locs : List Loc), va_P D vwCl [(m0, .inr (6, [.ref gA, .int (nI n), .ref tA, .int (nI w), .int (nI fo), .ref pA, .ref sA, .ref mA, .int ch, .int (nI ma), .ref npA, .ref nsA, .ref nmA, .int nc, .int (nI le), .ref lA, .int (nI dr), .ref dA, .int (nI dn)])), (gA, .inl (cI, 96, .inl (fun jj => nI (g jj))))] H → va_D A [(m0, .inr (6, [.ref gA, .int (nI n), .ref tA, .int (nI w), .int (nI fo), .ref pA, .ref sA, .ref mA, .int ch, .int (nI ma), .ref npA, .ref nsA, .ref nmA, .int nc, .int (nI le), .ref lA, .int (nI dr), .ref dA, .int (nI dn)])), (gA, .inl (cI, 96, .inl (fun jj => nI (g jj))))] → va_S A s0.heap H locs → ∀ ls : Array Slot, lv_has ls 3 [(0, .ref m0), (1, .int i), (2, .int (nI k))] → W pr l en ({ frames := 3, cells := 0, slots := 0, locals := 69 } : Room) s0 mi ([.ref m0, .int i] : List Value).toArray bl me co H locs 0 0 (MQ bl (va_Qi (fun (rv : Int32) (uu : Unit) => zrowR n g i rv) (fun (uu : Unit) t9 => va_P D vwCl ([(m0, .inr (6, [.ref gA, .int (nI n), .ref tA, .int (nI w), .int (nI fo), .ref pA, .ref sA, .ref mA, .int ch, .int (nI ma), .ref npA, .ref nsA, .ref nmA, .int nc, .int (nI le), .ref lA, .int (nI dr), .ref dA, .int (nI dn)])), (gA, .inl (cI, 96, .inl (fun jj => nI (g jj))))]) t9.heap) A) ([.ref m0, .int i] : List Value).toArray s0 0 0 A) (F0 mi 2 ls []) := by
  obtain ⟨hx, hb, hr, hml, hown, hts, hlocks, hin⟩ := id hC
  intro N
  induction N with
  | zero =>
    intro k hmea
    omega
  | succ N ih =>
    intro k hmea hk hk2 H locs hP hD hS ls hl
    refine lv_iload_n hx hb dX6_row_2 rfl (lv_at hl 2 rfl) ?_
    refine lv_aload_n hx hb dX6_row_3 rfl (lv_at hl 0 rfl) ?_
    refine va_get (D := D) (ci := 6) (v := .int (nI n)) (C := RX6) (T := TX6) (N := 19) hx hb hts (fun w h => List.mem_cons_of_mem _ (inUX6 w h)) hown hK hP 0 rfl rfl 1 (by decide) (hts _ (List.mem_cons_of_mem _ mw_439)) (fun _ h9 => h9) rfl dX6_row_4 ?_
    refine zz_gt (tgt := 27) hx hb dX6_row_7 (by decide) (by omega) (by omega) (fun c7 => ?_) (fun c7 => ?_)
    · skip
      refine lv_iconst (v := (-1)) hx hb dX6_row_27 (by decide) ?_
      exact zIret hC hS () (Or.inr ⟨fun q h => hk2 q (by omega), rfl⟩) hP (vp_nar_int _) dX6_row_28
    · skip
      refine lv_aload_n hx hb dX6_row_10 rfl (lv_at hl 0 rfl) ?_
      refine lv_iload_n hx hb dX6_row_11 rfl (lv_at hl 2 rfl) ?_
      refine zCi (is := [0, 1]) (wf := (fun (uu : Unit) => ([(m0, .inr (6, [.ref gA, .int (nI n), .ref tA, .int (nI w), .int (nI fo), .ref pA, .ref sA, .ref mA, .int ch, .int (nI ma), .ref npA, .ref nsA, .ref nmA, .int nc, .int (nI le), .ref lA, .int (nI dr), .ref dA, .int (nI dn)])), (gA, .inl (cI, 96, .inl (fun jj => nI (g jj))))] : va_W))) (va_runV (As := [.int (nI k)]) (rest := []) ⟨hx, hb, hml, hown, hts⟩ (j_before l D cI cC  m0 gA n tA w fo pA sA mA ma npA nsA nmA le lA dr dA dn ch nc k g (by omega) hg (by omega) H.size) (cwV 1 hts (zgood mw_524 mw_526 mw_5 mw_32 mw_527) rfl rfl rfl (by decide +kernel) ⟨Nat.le_of_ble_eq_true rfl, Nat.le_of_ble_eq_true rfl⟩) ⟨zBlind zE0_ok, va_recv hK hP (ci := 6) (q0 := 0) rfl rfl, zAt (av := [.ref m0, .int (nI k)]) zE0_ok hP hD hK hS hA trivial [0, 1] rfl (by decide)⟩ rfl rfl hl.1 rfl (lv_room (Nat.le_of_ble_eq_true rfl)) dX6_row_12 ⟨Nat.zero_le _, Nat.zero_le _⟩) hP hD hS hA rfl (fun _ => rfl) (fun r12 u12 H locs w12 hP hD hS => ?_)
      obtain ⟨rfl, w12⟩ := w12
      have hP : va_P D vwCl [(m0, .inr (6, [.ref gA, .int (nI n), .ref tA, .int (nI w), .int (nI fo), .ref pA, .ref sA, .ref mA, .int ch, .int (nI ma), .ref npA, .ref nsA, .ref nmA, .int nc, .int (nI le), .ref lA, .int (nI dr), .ref dA, .int (nI dn)])), (gA, .inl (cI, 96, .inl (fun jj => nI (g jj))))] H := hP
      have hD : va_D A [(m0, .inr (6, [.ref gA, .int (nI n), .ref tA, .int (nI w), .int (nI fo), .ref pA, .ref sA, .ref mA, .int ch, .int (nI ma), .ref npA, .ref nsA, .ref nmA, .int nc, .int (nI le), .ref lA, .int (nI dr), .ref dA, .int (nI dn)])), (gA, .inl (cI, 96, .inl (fun jj => nI (g jj))))] := hD
      refine lv_iload_n hx hb dX6_row_15 rfl (lv_at hl 1 rfl) ?_
      refine lv_icmp_ne (tgt := 21) hx hb dX6_row_16 (by decide) (fun c16 => ?_) (fun c16 => ?_)
      · skip
        refine lv_iinc (v := nI (k + 1)) (lv' := [(2, .int (nI (k + 1))), (0, .ref m0), (1, .int i)]) hx hb dX6_row_21 hl (k := 2) rfl (zincE (by omega)) (by decide) rfl (fun ls hl => ?_)
        refine lv_goto (tgt := 2) hx hb dX6_row_24 (by decide) ?_
        exact ih (k + 1) (by omega) (by omega) (fun q h => by
          by_cases e : q = k
          · subst e; exact fun z => c16 z.symm
          · exact hk2 q (by omega)) _ _ hP hD hS ls (lv_sub hl [1, 2, 0] rfl)
      · skip
        refine lv_iload_n hx hb dX6_row_19 rfl (lv_at hl 2 rfl) ?_
        exact zIret hC hS () (Or.inl ⟨k, by omega, c16.symm, rfl⟩) hP (vp_nar_int _) dX6_row_20
set_option maxHeartbeats 4000000 in
set_option maxRecDepth 100000 in
theorem j_row (l : Launch) (D : va_G) (cI cC : ClassId)  (m0 gA n tA w fo pA sA mA ma npA nsA nmA le lA dr dA dn : Nat) (ch nc : Int32) (i : Int32) (g : Nat → Nat) (hn : n ≤ 96) (hg : ∀ i, g i ≤ 4) (sz : Nat) : Met l yX6_row wsX6_row ({ frames := 3, cells := 0, slots := 0, locals := 69 } : Room) (zPre zE0 D vwCl [(cI, .int), (cC, .char)] [.ref m0, .int i] [(m0, .inr (6, [.ref gA, .int (nI n), .ref tA, .int (nI w), .int (nI fo), .ref pA, .ref sA, .ref mA, .int ch, .int (nI ma), .ref npA, .ref nsA, .ref nmA, .int nc, .int (nI le), .ref lA, .int (nI dr), .ref dA, .int (nI dn)])), (gA, .inl (cI, 96, .inl (fun jj => nI (g jj))))] sz) (va_Qi (fun (rv : Int32) (uu : Unit) => zrowR n g i rv) (fun (uu : Unit) t9 => va_P D vwCl ([(m0, .inr (6, [.ref gA, .int (nI n), .ref tA, .int (nI w), .int (nI fo), .ref pA, .ref sA, .ref mA, .int ch, .int (nI ma), .ref npA, .ref nsA, .ref nmA, .int nc, .int (nI le), .ref lA, .int (nI dr), .ref dA, .int (nI dn)])), (gA, .inl (cI, 96, .inl (fun jj => nI (g jj))))]) t9.heap) (va_A [(m0, .inr (6, [.ref gA, .int (nI n), .ref tA, .int (nI w), .int (nI fo), .ref pA, .ref sA, .ref mA, .int ch, .int (nI ma), .ref npA, .ref nsA, .ref nmA, .int nc, .int (nI le), .ref lA, .int (nI dr), .ref dA, .int (nI dn)])), (gA, .inl (cI, 96, .inl (fun jj => nI (g jj))))] sz)) 0 0 (va_A [(m0, .inr (6, [.ref gA, .int (nI n), .ref tA, .int (nI w), .int (nI fo), .ref pA, .ref sA, .ref mA, .int ch, .int (nI ma), .ref npA, .ref nsA, .ref nmA, .int nc, .int (nI le), .ref lA, .int (nI dr), .ref dA, .int (nI dn)])), (gA, .inl (cI, 96, .inl (fun jj => nI (g jj))))] sz) := by
  refine zMet (cc := cX6_row) (maxL := 3) (ret := (some .int)) (Qc := fun A => (va_Qi (fun (rv : Int32) (uu : Unit) => zrowR n g i rv) (fun (uu : Unit) t9 => va_P D vwCl ([(m0, .inr (6, [.ref gA, .int (nI n), .ref tA, .int (nI w), .int (nI fo), .ref pA, .ref sA, .ref mA, .int ch, .int (nI ma), .ref npA, .ref nsA, .ref nmA, .int nc, .int (nI le), .ref lA, .int (nI dr), .ref dA, .int (nI dn)])), (gA, .inl (cI, 96, .inl (fun jj => nI (g jj))))]) t9.heap) A)) (by decide) rfl (Nat.le_of_ble_eq_true rfl) ?_
  intro pr en s0 mi bl me co A hC hA hK hE H locs hP hD hS ls hl
  obtain ⟨hx, hb, hr, hml, hown, hts, hlocks, hin⟩ := id hC
  have hl : lv_has ls 3 [(0, .ref m0), (1, .int i)] := hl
  refine lv_iconst (v := nI 0) hx hb dX6_row_0 (by decide) ?_
  refine lv_istore_n (lv' := [(2, .int (nI 0)), (0, .ref m0), (1, .int i)]) hx hb dX6_row_1 rfl hl (by decide) rfl (fun ls hl => ?_)
  exact j_row_L2 l D cI cC  m0 gA n tA w fo pA sA mA ma npA nsA nmA le lA dr dA dn ch nc i g hn hg hC hA hK hE _ 0 (Nat.lt_succ_self _) (Nat.zero_le _) (fun q h => absurd h (Nat.not_lt_zero _)) _ _ hP hD hS ls (lv_sub hl [1, 2, 0] rfl)
