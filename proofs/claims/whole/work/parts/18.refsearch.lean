set_option maxHeartbeats 4000000 in
set_option maxRecDepth 100000 in
theorem j_starts_L28 {pr : Program} {en : Env} {s0 : State} {mi : MethodId} {bl : List Frame} {me : Method} {co : Code} {A : Nat → Prop} (l : Launch) (D : va_G) (cI cC : ClassId)  (m0 gA n tA w fo pA sA mA ma npA nsA nmA le lA dr dA dn : Nat) (ch nc : Int32) (p : Nat) (g : Nat → Nat) (r : Nat → Nat) (hn : n ≤ 96) (hg : ∀ i, g i ≤ 4) (hw : w ≤ 24) (hr3 : ∀ i, i < w → r i ≤ 3) (hp : p ≤ n) (hC : zK pr s0 mi ([.ref m0, .int (nI p)] : List Value).toArray me co cX6_starts 4 (some .boolean) yX6_starts wsX6_starts) (hA : ∀ q, s0.heap.size ≤ q → A q) (hK : va_K D vwCl [(cI, .int), (cC, .char)] s0) (hE : zE0 A s0 s0.heap) :
    ∀ (N : Nat) (k : Nat), w - k < N → (k ≤ w) → ∀ (H : Heap) (locs : List Loc), va_P D vwCl [(m0, .inr (6, [.ref gA, .int (nI n), .ref tA, .int (nI w), .int (nI fo), .ref pA, .ref sA, .ref mA, .int ch, .int (nI ma), .ref npA, .ref nsA, .ref nmA, .int nc, .int (nI le), .ref lA, .int (nI dr), .ref dA, .int (nI dn)])), (gA, .inl (cI, 96, .inl (fun jj => nI (g jj)))), (tA, .inl (cI, 24, .inl (fun jj => nI (r jj))))] H → va_D A [(m0, .inr (6, [.ref gA, .int (nI n), .ref tA, .int (nI w), .int (nI fo), .ref pA, .ref sA, .ref mA, .int ch, .int (nI ma), .ref npA, .ref nsA, .ref nmA, .int nc, .int (nI le), .ref lA, .int (nI dr), .ref dA, .int (nI dn)])), (gA, .inl (cI, 96, .inl (fun jj => nI (g jj)))), (tA, .inl (cI, 24, .inl (fun jj => nI (r jj))))] → va_S A s0.heap H locs → ∀ ls : Array Slot, lv_has ls 4 [(0, .ref m0), (1, .int (nI p)), (2, .int (zb (0 < w ∧ p + w ≤ n ∧ zmm g r p k = 0))), (3, .int (nI k))] → W pr l en ({ frames := 0, cells := 0, slots := 0, locals := 0 } : Room) s0 mi ([.ref m0, .int (nI p)] : List Value).toArray bl me co H locs 0 0 (MQ bl (va_Qi (fun (rv : Int32) (uu : Unit) => rv = zb (0 < w ∧ p + w ≤ n ∧ zmm g r p w = 0) ∧ True) (fun (uu : Unit) t9 => va_P D vwCl ([(m0, .inr (6, [.ref gA, .int (nI n), .ref tA, .int (nI w), .int (nI fo), .ref pA, .ref sA, .ref mA, .int ch, .int (nI ma), .ref npA, .ref nsA, .ref nmA, .int nc, .int (nI le), .ref lA, .int (nI dr), .ref dA, .int (nI dn)])), (gA, .inl (cI, 96, .inl (fun jj => nI (g jj)))), (tA, .inl (cI, 24, .inl (fun jj => nI (r jj))))]) t9.heap) A) ([.ref m0, .int (nI p)] : List Value).toArray s0 0 0 A) (F0 mi 28 ls []) := by
  obtain ⟨hx, hb, hr, hml, hown, hts, hlocks, hin⟩ := id hC
  intro N
  induction N with
  | zero =>
    intro k hmea
    omega
  | succ N ih =>
    intro k hmea hk H locs hP hD hS ls hl
    refine lv_iload_n hx hb dX6_starts_28 rfl (lv_at hl 3 rfl) ?_
    refine lv_aload_n hx hb dX6_starts_29 rfl (lv_at hl 0 rfl) ?_
    refine va_get (D := D) (ci := 6) (v := .int (nI w)) (C := RX6) (T := TX6) (N := 19) hx hb hts (fun w h => List.mem_cons_of_mem _ (inUX6 w h)) hown hK hP 0 rfl rfl 3 (by decide) (hts _ (List.mem_cons_of_mem _ mw_441)) (fun _ h9 => h9) rfl dX6_starts_30 ?_
    refine zz_ge (tgt := 69) hx hb dX6_starts_33 (by decide) (by omega) (by omega) (fun c33 => ?_) (fun c33 => ?_)
    · skip
      refine lv_iload_n hx hb dX6_starts_69 rfl (lv_at hl 2 rfl) ?_
      exact zIret hC hS () ⟨by first | (rw [show k = w by omega]; done) | rw [zb_f c37, zb_f (fun q => c37 ⟨q.1, q.2.1, by have := zmm_mono g r p (show k ≤ w by omega); omega⟩)], trivial⟩ hP znb dX6_starts_70
    · skip
      refine lv_iload_n hx hb dX6_starts_36 rfl (lv_at hl 2 rfl) ?_
      refine zz_eqb (tgt := 69) hx hb dX6_starts_37 (by decide) (fun c37 => ?_) (fun c37 => ?_)
      · skip
        refine lv_iload_n hx hb dX6_starts_69 rfl (lv_at hl 2 rfl) ?_
        exact zIret hC hS () ⟨by first | (rw [show k = w by omega]; done) | rw [zb_f c37, zb_f (fun q => c37 ⟨q.1, q.2.1, by have := zmm_mono g r p (show k ≤ w by omega); omega⟩)], trivial⟩ hP znb dX6_starts_70
      · skip
        refine lv_aload_n hx hb dX6_starts_40 rfl (lv_at hl 0 rfl) ?_
        refine va_get (D := D) (ci := 6) (v := .ref gA) (C := RX6) (T := TX6) (N := 19) hx hb hts (fun w h => List.mem_cons_of_mem _ (inUX6 w h)) hown hK hP 0 rfl rfl 0 (by decide) (hts _ (List.mem_cons_of_mem _ mw_438)) (fun _ h9 => h9) rfl dX6_starts_41 ?_
        refine lv_iload_n hx hb dX6_starts_44 rfl (lv_at hl 1 rfl) ?_
        refine lv_iload_n hx hb dX6_starts_45 rfl (lv_at hl 3 rfl) ?_
        refine lv_iadd hx hb dX6_starts_46 ?_
        refine zz_top (y := nI (p + k)) (zadd (by omega)) ?_
        refine zz_iald (k := p + k) (f := g) hx hb hK hP 1 0 rfl rfl (by have := c37.2.1; omega) (by omega) dX6_starts_47 ?_
        refine lv_aload_n hx hb dX6_starts_48 rfl (lv_at hl 0 rfl) ?_
        refine va_get (D := D) (ci := 6) (v := .ref tA) (C := RX6) (T := TX6) (N := 19) hx hb hts (fun w h => List.mem_cons_of_mem _ (inUX6 w h)) hown hK hP 0 rfl rfl 2 (by decide) (hts _ (List.mem_cons_of_mem _ mw_440)) (fun _ h9 => h9) rfl dX6_starts_49 ?_
        refine lv_iload_n hx hb dX6_starts_52 rfl (lv_at hl 3 rfl) ?_
        refine zz_iald (k := k) (f := r) hx hb hK hP 2 0 rfl rfl (by omega) (by omega) dX6_starts_53 ?_
        refine zz_ne (tgt := 61) hx hb dX6_starts_54 (by decide) (by have := hg (p + k); omega) (by have := hr3 k (by omega); omega) (fun c54 => ?_) (fun c54 => ?_)
        · skip
          refine lv_iconst (v := nI 0) hx hb dX6_starts_61 (by decide) ?_
          refine lv_istore_n (lv' := [(2, .int (nI 0)), (0, .ref m0), (1, .int (nI p)), (3, .int (nI k))]) hx hb dX6_starts_62 rfl hl (by decide) rfl (fun ls hl => ?_)
          refine lv_iinc (v := nI (k + 1)) (lv' := [(3, .int (nI (k + 1))), (2, .int (nI 0)), (0, .ref m0), (1, .int (nI p))]) hx hb dX6_starts_63 hl (k := 3) rfl (zincE (by omega)) (by decide) rfl (fun ls hl => ?_)
          refine lv_goto (tgt := 28) hx hb dX6_starts_66 (by decide) ?_
          have hl : lv_has ls 4 [(3, .int (nI (k + 1))), (2, .int (zb (0 < w ∧ p + w ≤ n ∧ zmm g r p (k + 1) = 0))), (0, .ref m0), (1, .int (nI p))] := by rw [zb_f (by rw [zmm_t c54]; omega)]; exact hl
          exact ih (k + 1) (by omega) (by omega) _ _ hP hD hS ls (lv_sub hl [2, 3, 1, 0] rfl)
        · skip
          refine lv_iconst (v := nI 1) hx hb dX6_starts_57 (by decide) ?_
          refine lv_goto (tgt := 62) hx hb dX6_starts_58 (by decide) ?_
          refine lv_istore_n (lv' := [(2, .int (nI 1)), (0, .ref m0), (1, .int (nI p)), (3, .int (nI k))]) hx hb dX6_starts_62 rfl hl (by decide) rfl (fun ls hl => ?_)
          refine lv_iinc (v := nI (k + 1)) (lv' := [(3, .int (nI (k + 1))), (2, .int (nI 1)), (0, .ref m0), (1, .int (nI p))]) hx hb dX6_starts_63 hl (k := 3) rfl (zincE (by omega)) (by decide) rfl (fun ls hl => ?_)
          refine lv_goto (tgt := 28) hx hb dX6_starts_66 (by decide) ?_
          have hl : lv_has ls 4 [(3, .int (nI (k + 1))), (2, .int (zb (0 < w ∧ p + w ≤ n ∧ zmm g r p (k + 1) = 0))), (0, .ref m0), (1, .int (nI p))] := by rw [zb_t ⟨c37.1, c37.2.1, by rw [zmm_f c54]; exact c37.2.2⟩]; exact hl
          exact ih (k + 1) (by omega) (by omega) _ _ hP hD hS ls (lv_sub hl [2, 3, 1, 0] rfl)
set_option maxHeartbeats 4000000 in
set_option maxRecDepth 100000 in
theorem j_starts (l : Launch) (D : va_G) (cI cC : ClassId)  (m0 gA n tA w fo pA sA mA ma npA nsA nmA le lA dr dA dn : Nat) (ch nc : Int32) (p : Nat) (g : Nat → Nat) (r : Nat → Nat) (hn : n ≤ 96) (hg : ∀ i, g i ≤ 4) (hw : w ≤ 24) (hr3 : ∀ i, i < w → r i ≤ 3) (hp : p ≤ n) (sz : Nat) : Met l yX6_starts wsX6_starts ({ frames := 0, cells := 0, slots := 0, locals := 0 } : Room) (zPre zE0 D vwCl [(cI, .int), (cC, .char)] [.ref m0, .int (nI p)] [(m0, .inr (6, [.ref gA, .int (nI n), .ref tA, .int (nI w), .int (nI fo), .ref pA, .ref sA, .ref mA, .int ch, .int (nI ma), .ref npA, .ref nsA, .ref nmA, .int nc, .int (nI le), .ref lA, .int (nI dr), .ref dA, .int (nI dn)])), (gA, .inl (cI, 96, .inl (fun jj => nI (g jj)))), (tA, .inl (cI, 24, .inl (fun jj => nI (r jj))))] sz) (va_Qi (fun (rv : Int32) (uu : Unit) => rv = zb (0 < w ∧ p + w ≤ n ∧ zmm g r p w = 0) ∧ True) (fun (uu : Unit) t9 => va_P D vwCl ([(m0, .inr (6, [.ref gA, .int (nI n), .ref tA, .int (nI w), .int (nI fo), .ref pA, .ref sA, .ref mA, .int ch, .int (nI ma), .ref npA, .ref nsA, .ref nmA, .int nc, .int (nI le), .ref lA, .int (nI dr), .ref dA, .int (nI dn)])), (gA, .inl (cI, 96, .inl (fun jj => nI (g jj)))), (tA, .inl (cI, 24, .inl (fun jj => nI (r jj))))]) t9.heap) (va_A [(m0, .inr (6, [.ref gA, .int (nI n), .ref tA, .int (nI w), .int (nI fo), .ref pA, .ref sA, .ref mA, .int ch, .int (nI ma), .ref npA, .ref nsA, .ref nmA, .int nc, .int (nI le), .ref lA, .int (nI dr), .ref dA, .int (nI dn)])), (gA, .inl (cI, 96, .inl (fun jj => nI (g jj)))), (tA, .inl (cI, 24, .inl (fun jj => nI (r jj))))] sz)) 0 0 (va_A [(m0, .inr (6, [.ref gA, .int (nI n), .ref tA, .int (nI w), .int (nI fo), .ref pA, .ref sA, .ref mA, .int ch, .int (nI ma), .ref npA, .ref nsA, .ref nmA, .int nc, .int (nI le), .ref lA, .int (nI dr), .ref dA, .int (nI dn)])), (gA, .inl (cI, 96, .inl (fun jj => nI (g jj)))), (tA, .inl (cI, 24, .inl (fun jj => nI (r jj))))] sz) := by
  refine zMet (cc := cX6_starts) (maxL := 4) (ret := (some .boolean)) (Qc := fun A => (va_Qi (fun (rv : Int32) (uu : Unit) => rv = zb (0 < w ∧ p + w ≤ n ∧ zmm g r p w = 0) ∧ True) (fun (uu : Unit) t9 => va_P D vwCl ([(m0, .inr (6, [.ref gA, .int (nI n), .ref tA, .int (nI w), .int (nI fo), .ref pA, .ref sA, .ref mA, .int ch, .int (nI ma), .ref npA, .ref nsA, .ref nmA, .int nc, .int (nI le), .ref lA, .int (nI dr), .ref dA, .int (nI dn)])), (gA, .inl (cI, 96, .inl (fun jj => nI (g jj)))), (tA, .inl (cI, 24, .inl (fun jj => nI (r jj))))]) t9.heap) A)) (by decide) rfl (Nat.le_of_ble_eq_true rfl) ?_
  intro pr en s0 mi bl me co A hC hA hK hE H locs hP hD hS ls hl
  obtain ⟨hx, hb, hr, hml, hown, hts, hlocks, hin⟩ := id hC
  have hl : lv_has ls 4 [(0, .ref m0), (1, .int (nI p))] := hl
  refine lv_aload_n hx hb dX6_starts_0 rfl (lv_at hl 0 rfl) ?_
  refine va_get (D := D) (ci := 6) (v := .int (nI w)) (C := RX6) (T := TX6) (N := 19) hx hb hts (fun w h => List.mem_cons_of_mem _ (inUX6 w h)) hown hK hP 0 rfl rfl 3 (by decide) (hts _ (List.mem_cons_of_mem _ mw_441)) (fun _ h9 => h9) rfl dX6_starts_1 ?_
  refine zz_le0 (tgt := 24) hx hb dX6_starts_4 (by decide) (by omega) (fun c4 => ?_) (fun c4 => ?_)
  · skip
    refine lv_iconst (v := nI 0) hx hb dX6_starts_24 (by decide) ?_
    refine lv_istore_n (lv' := [(2, .int (nI 0)), (0, .ref m0), (1, .int (nI p))]) hx hb dX6_starts_25 rfl hl (by decide) rfl (fun ls hl => ?_)
    refine lv_iconst (v := nI 0) hx hb dX6_starts_26 (by decide) ?_
    refine lv_istore_n (lv' := [(3, .int (nI 0)), (2, .int (nI 0)), (0, .ref m0), (1, .int (nI p))]) hx hb dX6_starts_27 rfl hl (by decide) rfl (fun ls hl => ?_)
    have hl : lv_has ls 4 [(3, .int (nI 0)), (2, .int (zb (0 < w ∧ p + w ≤ n ∧ zmm g r p 0 = 0))), (0, .ref m0), (1, .int (nI p))] := by rw [zb_f (by omega)]; exact hl
    exact j_starts_L28 l D cI cC  m0 gA n tA w fo pA sA mA ma npA nsA nmA le lA dr dA dn ch nc p g r hn hg hw hr3 hp hC hA hK hE _ 0 (Nat.lt_succ_self _) (Nat.zero_le _) _ _ hP hD hS ls (lv_sub hl [2, 3, 1, 0] rfl)
  · skip
    refine lv_iload_n hx hb dX6_starts_7 rfl (lv_at hl 1 rfl) ?_
    refine lv_aload_n hx hb dX6_starts_8 rfl (lv_at hl 0 rfl) ?_
    refine va_get (D := D) (ci := 6) (v := .int (nI w)) (C := RX6) (T := TX6) (N := 19) hx hb hts (fun w h => List.mem_cons_of_mem _ (inUX6 w h)) hown hK hP 0 rfl rfl 3 (by decide) (hts _ (List.mem_cons_of_mem _ mw_441)) (fun _ h9 => h9) rfl dX6_starts_9 ?_
    refine lv_iadd hx hb dX6_starts_12 ?_
    refine zz_top (y := nI (p + w)) (zadd (by omega)) ?_
    refine lv_aload_n hx hb dX6_starts_13 rfl (lv_at hl 0 rfl) ?_
    refine va_get (D := D) (ci := 6) (v := .int (nI n)) (C := RX6) (T := TX6) (N := 19) hx hb hts (fun w h => List.mem_cons_of_mem _ (inUX6 w h)) hown hK hP 0 rfl rfl 1 (by decide) (hts _ (List.mem_cons_of_mem _ mw_439)) (fun _ h9 => h9) rfl dX6_starts_14 ?_
    refine zz_gt (tgt := 24) hx hb dX6_starts_17 (by decide) (by omega) (by omega) (fun c17 => ?_) (fun c17 => ?_)
    · skip
      refine lv_iconst (v := nI 0) hx hb dX6_starts_24 (by decide) ?_
      refine lv_istore_n (lv' := [(2, .int (nI 0)), (0, .ref m0), (1, .int (nI p))]) hx hb dX6_starts_25 rfl hl (by decide) rfl (fun ls hl => ?_)
      refine lv_iconst (v := nI 0) hx hb dX6_starts_26 (by decide) ?_
      refine lv_istore_n (lv' := [(3, .int (nI 0)), (2, .int (nI 0)), (0, .ref m0), (1, .int (nI p))]) hx hb dX6_starts_27 rfl hl (by decide) rfl (fun ls hl => ?_)
      have hl : lv_has ls 4 [(3, .int (nI 0)), (2, .int (zb (0 < w ∧ p + w ≤ n ∧ zmm g r p 0 = 0))), (0, .ref m0), (1, .int (nI p))] := by rw [zb_f (by omega)]; exact hl
      exact j_starts_L28 l D cI cC  m0 gA n tA w fo pA sA mA ma npA nsA nmA le lA dr dA dn ch nc p g r hn hg hw hr3 hp hC hA hK hE _ 0 (Nat.lt_succ_self _) (Nat.zero_le _) _ _ hP hD hS ls (lv_sub hl [2, 3, 1, 0] rfl)
    · skip
      refine lv_iconst (v := nI 1) hx hb dX6_starts_20 (by decide) ?_
      refine lv_goto (tgt := 25) hx hb dX6_starts_21 (by decide) ?_
      refine lv_istore_n (lv' := [(2, .int (nI 1)), (0, .ref m0), (1, .int (nI p))]) hx hb dX6_starts_25 rfl hl (by decide) rfl (fun ls hl => ?_)
      refine lv_iconst (v := nI 0) hx hb dX6_starts_26 (by decide) ?_
      refine lv_istore_n (lv' := [(3, .int (nI 0)), (2, .int (nI 1)), (0, .ref m0), (1, .int (nI p))]) hx hb dX6_starts_27 rfl hl (by decide) rfl (fun ls hl => ?_)
      have hl : lv_has ls 4 [(3, .int (nI 0)), (2, .int (zb (0 < w ∧ p + w ≤ n ∧ zmm g r p 0 = 0))), (0, .ref m0), (1, .int (nI p))] := by rw [zb_t ⟨by omega, by omega, rfl⟩]; exact hl
      exact j_starts_L28 l D cI cC  m0 gA n tA w fo pA sA mA ma npA nsA nmA le lA dr dA dn ch nc p g r hn hg hw hr3 hp hC hA hK hE _ 0 (Nat.lt_succ_self _) (Nat.zero_le _) _ _ hP hD hS ls (lv_sub hl [2, 3, 1, 0] rfl)
set_option maxHeartbeats 4000000 in
set_option maxRecDepth 100000 in
theorem j_first_L4 {pr : Program} {en : Env} {s0 : State} {mi : MethodId} {bl : List Frame} {me : Method} {co : Code} {A : Nat → Prop} (l : Launch) (D : va_G) (cI cC : ClassId)  (m0 gA n tA w fo pA sA mA ma npA nsA nmA le lA dr dA dn : Nat) (ch nc : Int32) (g : Nat → Nat) (r : Nat → Nat) (hn : n ≤ 96) (hg : ∀ i, g i ≤ 4) (hw : w ≤ 24) (hr3 : ∀ i, i < w → r i ≤ 3) (hC : zK pr s0 mi ([.ref m0] : List Value).toArray me co cX6_first 4 (some .int) yX6_first wsX6_first) (hA : ∀ q, s0.heap.size ≤ q → A q) (hK : va_K D vwCl [(cI, .int), (cC, .char)] s0) (hE : zE0 A s0 s0.heap) :
    ∀ (N : Nat) (k : Nat) (x : Int32), n - k < N → (k ≤ n) → (zfst n g (fun p => 0 < w ∧ p + w ≤ n ∧ zmm g r p w = 0) k x) → ∀ (H : Heap) (locs : List Loc), va_P D vwCl [(m0, .inr (6, [.ref gA, .int (nI n), .ref tA, .int (nI w), .int (nI fo), .ref pA, .ref sA, .ref mA, .int ch, .int (nI ma), .ref npA, .ref nsA, .ref nmA, .int nc, .int (nI le), .ref lA, .int (nI dr), .ref dA, .int (nI dn)])), (gA, .inl (cI, 96, .inl (fun jj => nI (g jj)))), (tA, .inl (cI, 24, .inl (fun jj => nI (r jj))))] H → va_D A [(m0, .inr (6, [.ref gA, .int (nI n), .ref tA, .int (nI w), .int (nI fo), .ref pA, .ref sA, .ref mA, .int ch, .int (nI ma), .ref npA, .ref nsA, .ref nmA, .int nc, .int (nI le), .ref lA, .int (nI dr), .ref dA, .int (nI dn)])), (gA, .inl (cI, 96, .inl (fun jj => nI (g jj)))), (tA, .inl (cI, 24, .inl (fun jj => nI (r jj))))] → va_S A s0.heap H locs → ∀ ls : Array Slot, lv_has ls 4 [(0, .ref m0), (1, .int x), (2, .int (nI k))] → W pr l en ({ frames := 3, cells := 0, slots := 0, locals := 69 } : Room) s0 mi ([.ref m0] : List Value).toArray bl me co H locs 0 0 (MQ bl (va_Qi (fun (rv : Int32) (uu : Unit) => zfst n g (fun p => 0 < w ∧ p + w ≤ n ∧ zmm g r p w = 0) n rv) (fun (uu : Unit) t9 => va_P D vwCl ([(m0, .inr (6, [.ref gA, .int (nI n), .ref tA, .int (nI w), .int (nI fo), .ref pA, .ref sA, .ref mA, .int ch, .int (nI ma), .ref npA, .ref nsA, .ref nmA, .int nc, .int (nI le), .ref lA, .int (nI dr), .ref dA, .int (nI dn)])), (gA, .inl (cI, 96, .inl (fun jj => nI (g jj)))), (tA, .inl (cI, 24, .inl (fun jj => nI (r jj))))]) t9.heap) A) ([.ref m0] : List Value).toArray s0 0 0 A) (F0 mi 4 ls []) := by
  obtain ⟨hx, hb, hr, hml, hown, hts, hlocks, hin⟩ := id hC
  intro N
  induction N with
  | zero =>
    intro k x hmea
    omega
  | succ N ih =>
    intro k x hmea hk hx1 H locs hP hD hS ls hl
    refine lv_iload_n hx hb dX6_first_4 rfl (lv_at hl 2 rfl) ?_
    refine lv_aload_n hx hb dX6_first_5 rfl (lv_at hl 0 rfl) ?_
    refine va_get (D := D) (ci := 6) (v := .int (nI n)) (C := RX6) (T := TX6) (N := 19) hx hb hts (fun w h => List.mem_cons_of_mem _ (inUX6 w h)) hown hK hP 0 rfl rfl 1 (by decide) (hts _ (List.mem_cons_of_mem _ mw_439)) (fun _ h9 => h9) rfl dX6_first_6 ?_
    refine zz_ge (tgt := 47) hx hb dX6_first_9 (by decide) (by omega) (by omega) (fun c9 => ?_) (fun c9 => ?_)
    · skip
      refine lv_iload_n hx hb dX6_first_47 rfl (lv_at hl 1 rfl) ?_
      exact zIret hC hS () (by rw [show k = n by omega] at hx1; exact hx1) hP (vp_nar_int _) dX6_first_48
    · skip
      refine lv_aload_n hx hb dX6_first_12 rfl (lv_at hl 0 rfl) ?_
      refine lv_iload_n hx hb dX6_first_13 rfl (lv_at hl 2 rfl) ?_
      refine zCi (is := [0, 1, 2]) (wf := (fun (uu : Unit) => ([(m0, .inr (6, [.ref gA, .int (nI n), .ref tA, .int (nI w), .int (nI fo), .ref pA, .ref sA, .ref mA, .int ch, .int (nI ma), .ref npA, .ref nsA, .ref nmA, .int nc, .int (nI le), .ref lA, .int (nI dr), .ref dA, .int (nI dn)])), (gA, .inl (cI, 96, .inl (fun jj => nI (g jj)))), (tA, .inl (cI, 24, .inl (fun jj => nI (r jj))))] : va_W))) (va_runV (As := [.int (nI k)]) (rest := []) ⟨hx, hb, hml, hown, hts⟩ (j_starts l D cI cC  m0 gA n tA w fo pA sA mA ma npA nsA nmA le lA dr dA dn ch nc k g r (by omega) hg (by omega) hr3 (by omega) H.size) (cwV 1 hts (zgood mw_549 mw_551 mw_8 mw_32 mw_552) rfl rfl rfl (by decide +kernel) ⟨Nat.le_of_ble_eq_true rfl, Nat.le_of_ble_eq_true rfl⟩) ⟨zBlind zE0_ok, va_recv hK hP (ci := 6) (q0 := 0) rfl rfl, zAt (av := [.ref m0, .int (nI k)]) zE0_ok hP hD hK hS hA trivial [0, 1, 2] rfl (by decide)⟩ rfl rfl hl.1 rfl (lv_room (Nat.le_of_ble_eq_true rfl)) dX6_first_14 ⟨Nat.zero_le _, Nat.zero_le _⟩) hP hD hS hA rfl (fun _ => rfl) (fun r14 u14 H locs w14 hP hD hS => ?_)
      obtain ⟨rfl, w14⟩ := w14
      have hP : va_P D vwCl [(m0, .inr (6, [.ref gA, .int (nI n), .ref tA, .int (nI w), .int (nI fo), .ref pA, .ref sA, .ref mA, .int ch, .int (nI ma), .ref npA, .ref nsA, .ref nmA, .int nc, .int (nI le), .ref lA, .int (nI dr), .ref dA, .int (nI dn)])), (gA, .inl (cI, 96, .inl (fun jj => nI (g jj)))), (tA, .inl (cI, 24, .inl (fun jj => nI (r jj))))] H := hP
      have hD : va_D A [(m0, .inr (6, [.ref gA, .int (nI n), .ref tA, .int (nI w), .int (nI fo), .ref pA, .ref sA, .ref mA, .int ch, .int (nI ma), .ref npA, .ref nsA, .ref nmA, .int nc, .int (nI le), .ref lA, .int (nI dr), .ref dA, .int (nI dn)])), (gA, .inl (cI, 96, .inl (fun jj => nI (g jj)))), (tA, .inl (cI, 24, .inl (fun jj => nI (r jj))))] := hD
      refine zz_eqb (tgt := 41) hx hb dX6_first_17 (by decide) (fun c17 => ?_) (fun c17 => ?_)
      · skip
        refine lv_iinc (v := nI (k + 1)) (lv' := [(2, .int (nI (k + 1))), (0, .ref m0), (1, .int x)]) hx hb dX6_first_41 hl (k := 2) rfl (zincE (by omega)) (by decide) rfl (fun ls hl => ?_)
        refine lv_goto (tgt := 4) hx hb dX6_first_44 (by decide) ?_
        exact ih (k + 1) x (by omega) (by omega) (zfst_skip hx1 c17) _ _ hP hD hS ls (lv_sub hl [1, 2, 0] rfl)
      · skip
        refine lv_aload_n hx hb dX6_first_20 rfl (lv_at hl 0 rfl) ?_
        refine lv_iload_n hx hb dX6_first_21 rfl (lv_at hl 2 rfl) ?_
        refine zCi (is := [0, 1]) (wf := (fun (uu : Unit) => ([(m0, .inr (6, [.ref gA, .int (nI n), .ref tA, .int (nI w), .int (nI fo), .ref pA, .ref sA, .ref mA, .int ch, .int (nI ma), .ref npA, .ref nsA, .ref nmA, .int nc, .int (nI le), .ref lA, .int (nI dr), .ref dA, .int (nI dn)])), (gA, .inl (cI, 96, .inl (fun jj => nI (g jj))))] : va_W))) (va_runV (As := [.int (nI k)]) (rest := []) ⟨hx, hb, hml, hown, hts⟩ (j_before l D cI cC  m0 gA n tA w fo pA sA mA ma npA nsA nmA le lA dr dA dn ch nc k g (by omega) hg (by omega) H.size) (cwV 1 hts (zgood mw_524 mw_526 mw_5 mw_32 mw_527) rfl rfl rfl (by decide +kernel) ⟨Nat.le_of_ble_eq_true rfl, Nat.le_of_ble_eq_true rfl⟩) ⟨zBlind zE0_ok, va_recv hK hP (ci := 6) (q0 := 0) rfl rfl, zAt (av := [.ref m0, .int (nI k)]) zE0_ok hP hD hK hS hA trivial [0, 1] rfl (by decide)⟩ rfl rfl hl.1 rfl (lv_room (Nat.le_of_ble_eq_true rfl)) dX6_first_22 ⟨Nat.zero_le _, Nat.zero_le _⟩) hP hD hS hA rfl (fun _ => rfl) (fun r22 u22 H locs w22 hP hD hS => ?_)
        obtain ⟨rfl, w22⟩ := w22
        have hP : va_P D vwCl [(m0, .inr (6, [.ref gA, .int (nI n), .ref tA, .int (nI w), .int (nI fo), .ref pA, .ref sA, .ref mA, .int ch, .int (nI ma), .ref npA, .ref nsA, .ref nmA, .int nc, .int (nI le), .ref lA, .int (nI dr), .ref dA, .int (nI dn)])), (gA, .inl (cI, 96, .inl (fun jj => nI (g jj)))), (tA, .inl (cI, 24, .inl (fun jj => nI (r jj))))] H := hP
        have hD : va_D A [(m0, .inr (6, [.ref gA, .int (nI n), .ref tA, .int (nI w), .int (nI fo), .ref pA, .ref sA, .ref mA, .int ch, .int (nI ma), .ref npA, .ref nsA, .ref nmA, .int nc, .int (nI le), .ref lA, .int (nI dr), .ref dA, .int (nI dn)])), (gA, .inl (cI, 96, .inl (fun jj => nI (g jj)))), (tA, .inl (cI, 24, .inl (fun jj => nI (r jj))))] := hD
        refine lv_istore_n (lv' := [(3, .int (nI (zbef n g k))), (0, .ref m0), (1, .int x), (2, .int (nI k))]) hx hb dX6_first_25 rfl hl (by decide) rfl (fun ls hl => ?_)
        refine lv_iload_n hx hb dX6_first_26 rfl (lv_at hl 2 rfl) ?_
        refine lv_if_lt (tgt := 35) hx hb dX6_first_27 (by decide) (fun c27 => ?_) (fun c27 => ?_)
        · skip
          refine lv_iload_n hx hb dX6_first_35 rfl (lv_at hl 0 rfl) ?_
          refine lv_goto (tgt := 40) hx hb dX6_first_36 (by decide) ?_
          refine lv_istore_n (lv' := [(1, .int (nI (zbef n g k))), (3, .int (nI (zbef n g k))), (0, .ref m0), (2, .int (nI k))]) hx hb dX6_first_40 rfl hl (by decide) rfl (fun ls hl => ?_)
          refine lv_iinc (v := nI (k + 1)) (lv' := [(2, .int (nI (k + 1))), (1, .int (nI (zbef n g k))), (3, .int (nI (zbef n g k))), (0, .ref m0)]) hx hb dX6_first_41 hl (k := 3) rfl (zincE (by omega)) (by decide) rfl (fun ls hl => ?_)
          refine lv_goto (tgt := 4) hx hb dX6_first_44 (by decide) ?_
          exact ih (k + 1) (nI (zbef n g k)) (by omega) (by omega) (zfst_new hn (by omega) hx1 c17 (by first | exact Or.inl c27 | exact Or.inr c32)) _ _ hP hD hS ls (lv_sub hl [3, 1, 0] rfl)
        · skip
          refine lv_iload_n hx hb dX6_first_30 rfl (lv_at hl 0 rfl) ?_
          refine lv_iload_n hx hb dX6_first_31 rfl (lv_at hl 2 rfl) ?_
          refine lv_icmp_ge (tgt := 39) hx hb dX6_first_32 (by decide) (fun c32 => ?_) (fun c32 => ?_)
          · skip
            refine lv_iload_n hx hb dX6_first_39 rfl (lv_at hl 2 rfl) ?_
            refine lv_istore_n (lv' := [(1, .int x), (3, .int (nI (zbef n g k))), (0, .ref m0), (2, .int (nI k))]) hx hb dX6_first_40 rfl hl (by decide) rfl (fun ls hl => ?_)
            refine lv_iinc (v := nI (k + 1)) (lv' := [(2, .int (nI (k + 1))), (1, .int x), (3, .int (nI (zbef n g k))), (0, .ref m0)]) hx hb dX6_first_41 hl (k := 3) rfl (zincE (by omega)) (by decide) rfl (fun ls hl => ?_)
            refine lv_goto (tgt := 4) hx hb dX6_first_44 (by decide) ?_
            exact ih (k + 1) x (by omega) (by omega) (zfst_old hn (by omega) hx1 c27 c32) _ _ hP hD hS ls (lv_sub hl [3, 1, 0] rfl)
          · skip
            refine lv_iload_n hx hb dX6_first_35 rfl (lv_at hl 0 rfl) ?_
            refine lv_goto (tgt := 40) hx hb dX6_first_36 (by decide) ?_
            refine lv_istore_n (lv' := [(1, .int (nI (zbef n g k))), (3, .int (nI (zbef n g k))), (0, .ref m0), (2, .int (nI k))]) hx hb dX6_first_40 rfl hl (by decide) rfl (fun ls hl => ?_)
            refine lv_iinc (v := nI (k + 1)) (lv' := [(2, .int (nI (k + 1))), (1, .int (nI (zbef n g k))), (3, .int (nI (zbef n g k))), (0, .ref m0)]) hx hb dX6_first_41 hl (k := 3) rfl (zincE (by omega)) (by decide) rfl (fun ls hl => ?_)
            refine lv_goto (tgt := 4) hx hb dX6_first_44 (by decide) ?_
            exact ih (k + 1) (nI (zbef n g k)) (by omega) (by omega) (zfst_new hn (by omega) hx1 c17 (by first | exact Or.inl c27 | exact Or.inr c32)) _ _ hP hD hS ls (lv_sub hl [3, 1, 0] rfl)
set_option maxHeartbeats 4000000 in
set_option maxRecDepth 100000 in
theorem j_first (l : Launch) (D : va_G) (cI cC : ClassId)  (m0 gA n tA w fo pA sA mA ma npA nsA nmA le lA dr dA dn : Nat) (ch nc : Int32) (g : Nat → Nat) (r : Nat → Nat) (hn : n ≤ 96) (hg : ∀ i, g i ≤ 4) (hw : w ≤ 24) (hr3 : ∀ i, i < w → r i ≤ 3) (sz : Nat) : Met l yX6_first wsX6_first ({ frames := 3, cells := 0, slots := 0, locals := 69 } : Room) (zPre zE0 D vwCl [(cI, .int), (cC, .char)] [.ref m0] [(m0, .inr (6, [.ref gA, .int (nI n), .ref tA, .int (nI w), .int (nI fo), .ref pA, .ref sA, .ref mA, .int ch, .int (nI ma), .ref npA, .ref nsA, .ref nmA, .int nc, .int (nI le), .ref lA, .int (nI dr), .ref dA, .int (nI dn)])), (gA, .inl (cI, 96, .inl (fun jj => nI (g jj)))), (tA, .inl (cI, 24, .inl (fun jj => nI (r jj))))] sz) (va_Qi (fun (rv : Int32) (uu : Unit) => zfst n g (fun p => 0 < w ∧ p + w ≤ n ∧ zmm g r p w = 0) n rv) (fun (uu : Unit) t9 => va_P D vwCl ([(m0, .inr (6, [.ref gA, .int (nI n), .ref tA, .int (nI w), .int (nI fo), .ref pA, .ref sA, .ref mA, .int ch, .int (nI ma), .ref npA, .ref nsA, .ref nmA, .int nc, .int (nI le), .ref lA, .int (nI dr), .ref dA, .int (nI dn)])), (gA, .inl (cI, 96, .inl (fun jj => nI (g jj)))), (tA, .inl (cI, 24, .inl (fun jj => nI (r jj))))]) t9.heap) (va_A [(m0, .inr (6, [.ref gA, .int (nI n), .ref tA, .int (nI w), .int (nI fo), .ref pA, .ref sA, .ref mA, .int ch, .int (nI ma), .ref npA, .ref nsA, .ref nmA, .int nc, .int (nI le), .ref lA, .int (nI dr), .ref dA, .int (nI dn)])), (gA, .inl (cI, 96, .inl (fun jj => nI (g jj)))), (tA, .inl (cI, 24, .inl (fun jj => nI (r jj))))] sz)) 0 0 (va_A [(m0, .inr (6, [.ref gA, .int (nI n), .ref tA, .int (nI w), .int (nI fo), .ref pA, .ref sA, .ref mA, .int ch, .int (nI ma), .ref npA, .ref nsA, .ref nmA, .int nc, .int (nI le), .ref lA, .int (nI dr), .ref dA, .int (nI dn)])), (gA, .inl (cI, 96, .inl (fun jj => nI (g jj)))), (tA, .inl (cI, 24, .inl (fun jj => nI (r jj))))] sz) := by
  refine zMet (cc := cX6_first) (maxL := 4) (ret := (some .int)) (Qc := fun A => (va_Qi (fun (rv : Int32) (uu : Unit) => zfst n g (fun p => 0 < w ∧ p + w ≤ n ∧ zmm g r p w = 0) n rv) (fun (uu : Unit) t9 => va_P D vwCl ([(m0, .inr (6, [.ref gA, .int (nI n), .ref tA, .int (nI w), .int (nI fo), .ref pA, .ref sA, .ref mA, .int ch, .int (nI ma), .ref npA, .ref nsA, .ref nmA, .int nc, .int (nI le), .ref lA, .int (nI dr), .ref dA, .int (nI dn)])), (gA, .inl (cI, 96, .inl (fun jj => nI (g jj)))), (tA, .inl (cI, 24, .inl (fun jj => nI (r jj))))]) t9.heap) A)) (by decide) rfl (Nat.le_of_ble_eq_true rfl) ?_
  intro pr en s0 mi bl me co A hC hA hK hE H locs hP hD hS ls hl
  obtain ⟨hx, hb, hr, hml, hown, hts, hlocks, hin⟩ := id hC
  have hl : lv_has ls 4 [(0, .ref m0)] := hl
  refine lv_iconst (v := (-1)) hx hb dX6_first_0 (by decide) ?_
  refine lv_istore_n (lv' := [(1, .int ((-1))), (0, .ref m0)]) hx hb dX6_first_1 rfl hl (by decide) rfl (fun ls hl => ?_)
  refine lv_iconst (v := nI 0) hx hb dX6_first_2 (by decide) ?_
  refine lv_istore_n (lv' := [(2, .int (nI 0)), (1, .int ((-1))), (0, .ref m0)]) hx hb dX6_first_3 rfl hl (by decide) rfl (fun ls hl => ?_)
  exact j_first_L4 l D cI cC  m0 gA n tA w fo pA sA mA ma npA nsA nmA le lA dr dA dn ch nc g r hn hg hw hr3 hC hA hK hE _ 0 (-1) (Nat.lt_succ_self _) (Nat.zero_le _) (Or.inl ⟨rfl, fun p h => absurd h (Nat.not_lt_zero _)⟩) _ _ hP hD hS ls (lv_sub hl [2, 1, 0] rfl)
set_option maxHeartbeats 4000000 in
set_option maxRecDepth 100000 in
theorem j_count_L4 {pr : Program} {en : Env} {s0 : State} {mi : MethodId} {bl : List Frame} {me : Method} {co : Code} {A : Nat → Prop} (l : Launch) (D : va_G) (cI cC : ClassId)  (m0 gA n tA w fo pA sA mA ma npA nsA nmA le lA dr dA dn : Nat) (ch nc : Int32) (g : Nat → Nat) (r : Nat → Nat) (hn : n ≤ 96) (hg : ∀ i, g i ≤ 4) (hw : w ≤ 24) (hr3 : ∀ i, i < w → r i ≤ 3) (hC : zK pr s0 mi ([.ref m0] : List Value).toArray me co cX6_count 3 (some .int) yX6_count wsX6_count) (hA : ∀ q, s0.heap.size ≤ q → A q) (hK : va_K D vwCl [(cI, .int), (cC, .char)] s0) (hE : zE0 A s0 s0.heap) :
    ∀ (N : Nat) (k x : Nat), n - k < N → (k ≤ n) → (x = zcnt (fun p => decide (0 < w ∧ p + w ≤ n ∧ zmm g r p w = 0)) k) → ∀ (H : Heap) (locs : List Loc), va_P D vwCl [(m0, .inr (6, [.ref gA, .int (nI n), .ref tA, .int (nI w), .int (nI fo), .ref pA, .ref sA, .ref mA, .int ch, .int (nI ma), .ref npA, .ref nsA, .ref nmA, .int nc, .int (nI le), .ref lA, .int (nI dr), .ref dA, .int (nI dn)])), (gA, .inl (cI, 96, .inl (fun jj => nI (g jj)))), (tA, .inl (cI, 24, .inl (fun jj => nI (r jj))))] H → va_D A [(m0, .inr (6, [.ref gA, .int (nI n), .ref tA, .int (nI w), .int (nI fo), .ref pA, .ref sA, .ref mA, .int ch, .int (nI ma), .ref npA, .ref nsA, .ref nmA, .int nc, .int (nI le), .ref lA, .int (nI dr), .ref dA, .int (nI dn)])), (gA, .inl (cI, 96, .inl (fun jj => nI (g jj)))), (tA, .inl (cI, 24, .inl (fun jj => nI (r jj))))] → va_S A s0.heap H locs → ∀ ls : Array Slot, lv_has ls 3 [(0, .ref m0), (1, .int (nI x)), (2, .int (nI k))] → W pr l en ({ frames := 1, cells := 0, slots := 0, locals := 23 } : Room) s0 mi ([.ref m0] : List Value).toArray bl me co H locs 0 0 (MQ bl (va_Qi (fun (rv : Int32) (uu : Unit) => rv = nI (zcnt (fun p => decide (0 < w ∧ p + w ≤ n ∧ zmm g r p w = 0)) n) ∧ True) (fun (uu : Unit) t9 => va_P D vwCl ([(m0, .inr (6, [.ref gA, .int (nI n), .ref tA, .int (nI w), .int (nI fo), .ref pA, .ref sA, .ref mA, .int ch, .int (nI ma), .ref npA, .ref nsA, .ref nmA, .int nc, .int (nI le), .ref lA, .int (nI dr), .ref dA, .int (nI dn)])), (gA, .inl (cI, 96, .inl (fun jj => nI (g jj)))), (tA, .inl (cI, 24, .inl (fun jj => nI (r jj))))]) t9.heap) A) ([.ref m0] : List Value).toArray s0 0 0 A) (F0 mi 4 ls []) := by
  obtain ⟨hx, hb, hr, hml, hown, hts, hlocks, hin⟩ := id hC
  intro N
  induction N with
  | zero =>
    intro k x hmea
    omega
  | succ N ih =>
    intro k x hmea hk hx1 H locs hP hD hS ls hl
    refine lv_iload_n hx hb dX6_count_4 rfl (lv_at hl 2 rfl) ?_
    refine lv_aload_n hx hb dX6_count_5 rfl (lv_at hl 0 rfl) ?_
    refine va_get (D := D) (ci := 6) (v := .int (nI n)) (C := RX6) (T := TX6) (N := 19) hx hb hts (fun w h => List.mem_cons_of_mem _ (inUX6 w h)) hown hK hP 0 rfl rfl 1 (by decide) (hts _ (List.mem_cons_of_mem _ mw_439)) (fun _ h9 => h9) rfl dX6_count_6 ?_
    refine zz_ge (tgt := 34) hx hb dX6_count_9 (by decide) (by omega) (by omega) (fun c9 => ?_) (fun c9 => ?_)
    · skip
      refine lv_iload_n hx hb dX6_count_34 rfl (lv_at hl 1 rfl) ?_
      exact zIret hC hS () ⟨congrArg nI (by rw [hx1, show k = n by omega]), trivial⟩ hP (vp_nar_int _) dX6_count_35
    · skip
      refine lv_aload_n hx hb dX6_count_12 rfl (lv_at hl 0 rfl) ?_
      refine lv_iload_n hx hb dX6_count_13 rfl (lv_at hl 2 rfl) ?_
      refine zCi (is := [0, 1, 2]) (wf := (fun (uu : Unit) => ([(m0, .inr (6, [.ref gA, .int (nI n), .ref tA, .int (nI w), .int (nI fo), .ref pA, .ref sA, .ref mA, .int ch, .int (nI ma), .ref npA, .ref nsA, .ref nmA, .int nc, .int (nI le), .ref lA, .int (nI dr), .ref dA, .int (nI dn)])), (gA, .inl (cI, 96, .inl (fun jj => nI (g jj)))), (tA, .inl (cI, 24, .inl (fun jj => nI (r jj))))] : va_W))) (va_runV (As := [.int (nI k)]) (rest := []) ⟨hx, hb, hml, hown, hts⟩ (j_starts l D cI cC  m0 gA n tA w fo pA sA mA ma npA nsA nmA le lA dr dA dn ch nc k g r (by omega) hg (by omega) hr3 (by omega) H.size) (cwV 1 hts (zgood mw_549 mw_551 mw_8 mw_32 mw_552) rfl rfl rfl (by decide +kernel) ⟨Nat.le_of_ble_eq_true rfl, Nat.le_of_ble_eq_true rfl⟩) ⟨zBlind zE0_ok, va_recv hK hP (ci := 6) (q0 := 0) rfl rfl, zAt (av := [.ref m0, .int (nI k)]) zE0_ok hP hD hK hS hA trivial [0, 1, 2] rfl (by decide)⟩ rfl rfl hl.1 rfl (lv_room (Nat.le_of_ble_eq_true rfl)) dX6_count_14 ⟨Nat.zero_le _, Nat.zero_le _⟩) hP hD hS hA rfl (fun _ => rfl) (fun r14 u14 H locs w14 hP hD hS => ?_)
      obtain ⟨rfl, w14⟩ := w14
      have hP : va_P D vwCl [(m0, .inr (6, [.ref gA, .int (nI n), .ref tA, .int (nI w), .int (nI fo), .ref pA, .ref sA, .ref mA, .int ch, .int (nI ma), .ref npA, .ref nsA, .ref nmA, .int nc, .int (nI le), .ref lA, .int (nI dr), .ref dA, .int (nI dn)])), (gA, .inl (cI, 96, .inl (fun jj => nI (g jj)))), (tA, .inl (cI, 24, .inl (fun jj => nI (r jj))))] H := hP
      have hD : va_D A [(m0, .inr (6, [.ref gA, .int (nI n), .ref tA, .int (nI w), .int (nI fo), .ref pA, .ref sA, .ref mA, .int ch, .int (nI ma), .ref npA, .ref nsA, .ref nmA, .int nc, .int (nI le), .ref lA, .int (nI dr), .ref dA, .int (nI dn)])), (gA, .inl (cI, 96, .inl (fun jj => nI (g jj)))), (tA, .inl (cI, 24, .inl (fun jj => nI (r jj))))] := hD
      refine zz_eqb (tgt := 26) hx hb dX6_count_17 (by decide) (fun c17 => ?_) (fun c17 => ?_)
      · skip
        refine lv_iload_n hx hb dX6_count_26 rfl (lv_at hl 1 rfl) ?_
        refine lv_istore_n (lv' := [(1, .int (nI x)), (0, .ref m0), (2, .int (nI k))]) hx hb dX6_count_27 rfl hl (by decide) rfl (fun ls hl => ?_)
        refine lv_iinc (v := nI (k + 1)) (lv' := [(2, .int (nI (k + 1))), (1, .int (nI x)), (0, .ref m0)]) hx hb dX6_count_28 hl (k := 2) rfl (zincE (by omega)) (by decide) rfl (fun ls hl => ?_)
        refine lv_goto (tgt := 4) hx hb dX6_count_31 (by decide) ?_
        exact ih (k + 1) x (by omega) (by omega) (by rw [zcnt_f (by simpa using c17)]; omega) _ _ hP hD hS ls (lv_sub hl [2, 1, 0] rfl)
      · skip
        refine lv_iload_n hx hb dX6_count_20 rfl (lv_at hl 1 rfl) ?_
        refine lv_iconst (v := nI 1) hx hb dX6_count_21 (by decide) ?_
        refine lv_iadd hx hb dX6_count_22 ?_
        refine zz_top (y := nI (x + 1)) (zadd (by omega)) ?_
        refine lv_goto (tgt := 27) hx hb dX6_count_23 (by decide) ?_
        refine lv_istore_n (lv' := [(1, .int (nI (x + 1))), (0, .ref m0), (2, .int (nI k))]) hx hb dX6_count_27 rfl hl (by decide) rfl (fun ls hl => ?_)
        refine lv_iinc (v := nI (k + 1)) (lv' := [(2, .int (nI (k + 1))), (1, .int (nI (x + 1))), (0, .ref m0)]) hx hb dX6_count_28 hl (k := 2) rfl (zincE (by omega)) (by decide) rfl (fun ls hl => ?_)
        refine lv_goto (tgt := 4) hx hb dX6_count_31 (by decide) ?_
        exact ih (k + 1) (x + 1) (by omega) (by omega) (by rw [zcnt_t (by simpa using c17)]; omega) _ _ hP hD hS ls (lv_sub hl [2, 1, 0] rfl)
set_option maxHeartbeats 4000000 in
set_option maxRecDepth 100000 in
theorem j_count (l : Launch) (D : va_G) (cI cC : ClassId)  (m0 gA n tA w fo pA sA mA ma npA nsA nmA le lA dr dA dn : Nat) (ch nc : Int32) (g : Nat → Nat) (r : Nat → Nat) (hn : n ≤ 96) (hg : ∀ i, g i ≤ 4) (hw : w ≤ 24) (hr3 : ∀ i, i < w → r i ≤ 3) (sz : Nat) : Met l yX6_count wsX6_count ({ frames := 1, cells := 0, slots := 0, locals := 23 } : Room) (zPre zE0 D vwCl [(cI, .int), (cC, .char)] [.ref m0] [(m0, .inr (6, [.ref gA, .int (nI n), .ref tA, .int (nI w), .int (nI fo), .ref pA, .ref sA, .ref mA, .int ch, .int (nI ma), .ref npA, .ref nsA, .ref nmA, .int nc, .int (nI le), .ref lA, .int (nI dr), .ref dA, .int (nI dn)])), (gA, .inl (cI, 96, .inl (fun jj => nI (g jj)))), (tA, .inl (cI, 24, .inl (fun jj => nI (r jj))))] sz) (va_Qi (fun (rv : Int32) (uu : Unit) => rv = nI (zcnt (fun p => decide (0 < w ∧ p + w ≤ n ∧ zmm g r p w = 0)) n) ∧ True) (fun (uu : Unit) t9 => va_P D vwCl ([(m0, .inr (6, [.ref gA, .int (nI n), .ref tA, .int (nI w), .int (nI fo), .ref pA, .ref sA, .ref mA, .int ch, .int (nI ma), .ref npA, .ref nsA, .ref nmA, .int nc, .int (nI le), .ref lA, .int (nI dr), .ref dA, .int (nI dn)])), (gA, .inl (cI, 96, .inl (fun jj => nI (g jj)))), (tA, .inl (cI, 24, .inl (fun jj => nI (r jj))))]) t9.heap) (va_A [(m0, .inr (6, [.ref gA, .int (nI n), .ref tA, .int (nI w), .int (nI fo), .ref pA, .ref sA, .ref mA, .int ch, .int (nI ma), .ref npA, .ref nsA, .ref nmA, .int nc, .int (nI le), .ref lA, .int (nI dr), .ref dA, .int (nI dn)])), (gA, .inl (cI, 96, .inl (fun jj => nI (g jj)))), (tA, .inl (cI, 24, .inl (fun jj => nI (r jj))))] sz)) 0 0 (va_A [(m0, .inr (6, [.ref gA, .int (nI n), .ref tA, .int (nI w), .int (nI fo), .ref pA, .ref sA, .ref mA, .int ch, .int (nI ma), .ref npA, .ref nsA, .ref nmA, .int nc, .int (nI le), .ref lA, .int (nI dr), .ref dA, .int (nI dn)])), (gA, .inl (cI, 96, .inl (fun jj => nI (g jj)))), (tA, .inl (cI, 24, .inl (fun jj => nI (r jj))))] sz) := by
  refine zMet (cc := cX6_count) (maxL := 3) (ret := (some .int)) (Qc := fun A => (va_Qi (fun (rv : Int32) (uu : Unit) => rv = nI (zcnt (fun p => decide (0 < w ∧ p + w ≤ n ∧ zmm g r p w = 0)) n) ∧ True) (fun (uu : Unit) t9 => va_P D vwCl ([(m0, .inr (6, [.ref gA, .int (nI n), .ref tA, .int (nI w), .int (nI fo), .ref pA, .ref sA, .ref mA, .int ch, .int (nI ma), .ref npA, .ref nsA, .ref nmA, .int nc, .int (nI le), .ref lA, .int (nI dr), .ref dA, .int (nI dn)])), (gA, .inl (cI, 96, .inl (fun jj => nI (g jj)))), (tA, .inl (cI, 24, .inl (fun jj => nI (r jj))))]) t9.heap) A)) (by decide) rfl (Nat.le_of_ble_eq_true rfl) ?_
  intro pr en s0 mi bl me co A hC hA hK hE H locs hP hD hS ls hl
  obtain ⟨hx, hb, hr, hml, hown, hts, hlocks, hin⟩ := id hC
  have hl : lv_has ls 3 [(0, .ref m0)] := hl
  refine lv_iconst (v := nI 0) hx hb dX6_count_0 (by decide) ?_
  refine lv_istore_n (lv' := [(1, .int (nI 0)), (0, .ref m0)]) hx hb dX6_count_1 rfl hl (by decide) rfl (fun ls hl => ?_)
  refine lv_iconst (v := nI 0) hx hb dX6_count_2 (by decide) ?_
  refine lv_istore_n (lv' := [(2, .int (nI 0)), (1, .int (nI 0)), (0, .ref m0)]) hx hb dX6_count_3 rfl hl (by decide) rfl (fun ls hl => ?_)
  exact j_count_L4 l D cI cC  m0 gA n tA w fo pA sA mA ma npA nsA nmA le lA dr dA dn ch nc g r hn hg hw hr3 hC hA hK hE _ 0 0 (Nat.lt_succ_self _) (Nat.zero_le _) rfl _ _ hP hD hS ls (lv_sub hl [2, 1, 0] rfl)
set_option maxHeartbeats 4000000 in
set_option maxRecDepth 100000 in
theorem j_differ_L5 {pr : Program} {en : Env} {s0 : State} {mi : MethodId} {bl : List Frame} {me : Method} {co : Code} {A : Nat → Prop} (l : Launch) (D : va_G) (cI cC : ClassId)  (m0 gA n tA w fo pA sA mA ma npA nsA nmA le lA dr dA dn : Nat) (ch nc : Int32) (p t : Nat) (g : Nat → Nat) (r : Nat → Nat) (hn : n ≤ 96) (hg : ∀ i, g i ≤ 4) (hw : w ≤ 24) (hr3 : ∀ i, i < w → r i ≤ 3) (hp : p + w ≤ n) (ht : t ≤ 1) (hC : zK pr s0 mi ([.ref m0, .int (nI p), .int (nI t)] : List Value).toArray me co cX6_differ 5 (some .int) yX6_differ wsX6_differ) (hA : ∀ q, s0.heap.size ≤ q → A q) (hK : va_K D vwCl [(cI, .int), (cC, .char)] s0) (hE : zE0 A s0 s0.heap) :
    ∀ (N : Nat) (k x : Nat), w - k < N → (k ≤ w) → (x = zmm g (zsy w r t) p k) → ∀ (H : Heap) (locs : List Loc), va_P D vwCl [(m0, .inr (6, [.ref gA, .int (nI n), .ref tA, .int (nI w), .int (nI fo), .ref pA, .ref sA, .ref mA, .int ch, .int (nI ma), .ref npA, .ref nsA, .ref nmA, .int nc, .int (nI le), .ref lA, .int (nI dr), .ref dA, .int (nI dn)])), (gA, .inl (cI, 96, .inl (fun jj => nI (g jj)))), (tA, .inl (cI, 24, .inl (fun jj => nI (r jj))))] H → va_D A [(m0, .inr (6, [.ref gA, .int (nI n), .ref tA, .int (nI w), .int (nI fo), .ref pA, .ref sA, .ref mA, .int ch, .int (nI ma), .ref npA, .ref nsA, .ref nmA, .int nc, .int (nI le), .ref lA, .int (nI dr), .ref dA, .int (nI dn)])), (gA, .inl (cI, 96, .inl (fun jj => nI (g jj)))), (tA, .inl (cI, 24, .inl (fun jj => nI (r jj))))] → va_S A s0.heap H locs → ∀ ls : Array Slot, lv_has ls 5 [(0, .ref m0), (1, .int (nI p)), (2, .int (nI t)), (3, .int (nI x)), (4, .int (nI k))] → W pr l en ({ frames := 1, cells := 0, slots := 0, locals := 22 } : Room) s0 mi ([.ref m0, .int (nI p), .int (nI t)] : List Value).toArray bl me co H locs 0 0 (MQ bl (va_Qi (fun (rv : Int32) (uu : Unit) => rv = nI (zmm g (zsy w r t) p w) ∧ True) (fun (uu : Unit) t9 => va_P D vwCl ([(m0, .inr (6, [.ref gA, .int (nI n), .ref tA, .int (nI w), .int (nI fo), .ref pA, .ref sA, .ref mA, .int ch, .int (nI ma), .ref npA, .ref nsA, .ref nmA, .int nc, .int (nI le), .ref lA, .int (nI dr), .ref dA, .int (nI dn)])), (gA, .inl (cI, 96, .inl (fun jj => nI (g jj)))), (tA, .inl (cI, 24, .inl (fun jj => nI (r jj))))]) t9.heap) A) ([.ref m0, .int (nI p), .int (nI t)] : List Value).toArray s0 0 0 A) (F0 mi 5 ls []) := by
  obtain ⟨hx, hb, hr, hml, hown, hts, hlocks, hin⟩ := id hC
  intro N
  induction N with
  | zero =>
    intro k x hmea
    omega
  | succ N ih =>
    intro k x hmea hk hx1 H locs hP hD hS ls hl
    refine lv_iload hx hb dX6_differ_5 (lv_at hl 4 rfl) ?_
    refine lv_aload_n hx hb dX6_differ_7 rfl (lv_at hl 0 rfl) ?_
    refine va_get (D := D) (ci := 6) (v := .int (nI w)) (C := RX6) (T := TX6) (N := 19) hx hb hts (fun w h => List.mem_cons_of_mem _ (inUX6 w h)) hown hK hP 0 rfl rfl 3 (by decide) (hts _ (List.mem_cons_of_mem _ mw_441)) (fun _ h9 => h9) rfl dX6_differ_8 ?_
    refine zz_ge (tgt := 47) hx hb dX6_differ_11 (by decide) (by omega) (by omega) (fun c11 => ?_) (fun c11 => ?_)
    · skip
      refine lv_iload_n hx hb dX6_differ_47 rfl (lv_at hl 3 rfl) ?_
      exact zIret hC hS () ⟨congrArg nI (by rw [hx1, show k = w by omega]), trivial⟩ hP (vp_nar_int _) dX6_differ_48
    · skip
      refine lv_aload_n hx hb dX6_differ_14 rfl (lv_at hl 0 rfl) ?_
      refine va_get (D := D) (ci := 6) (v := .ref gA) (C := RX6) (T := TX6) (N := 19) hx hb hts (fun w h => List.mem_cons_of_mem _ (inUX6 w h)) hown hK hP 0 rfl rfl 0 (by decide) (hts _ (List.mem_cons_of_mem _ mw_438)) (fun _ h9 => h9) rfl dX6_differ_15 ?_
      refine lv_iload_n hx hb dX6_differ_18 rfl (lv_at hl 1 rfl) ?_
      refine lv_iload hx hb dX6_differ_19 (lv_at hl 4 rfl) ?_
      refine lv_iadd hx hb dX6_differ_21 ?_
      refine zz_top (y := nI (p + k)) (zadd (by omega)) ?_
      refine zz_iald (k := p + k) (f := g) hx hb hK hP 1 0 rfl rfl (by omega) (by omega) dX6_differ_22 ?_
      refine lv_aload_n hx hb dX6_differ_23 rfl (lv_at hl 0 rfl) ?_
      refine lv_iload_n hx hb dX6_differ_24 rfl (lv_at hl 2 rfl) ?_
      refine lv_iload hx hb dX6_differ_25 (lv_at hl 4 rfl) ?_
      refine zCi (is := [0, 2]) (wf := (fun (uu : Unit) => ([(m0, .inr (6, [.ref gA, .int (nI n), .ref tA, .int (nI w), .int (nI fo), .ref pA, .ref sA, .ref mA, .int ch, .int (nI ma), .ref npA, .ref nsA, .ref nmA, .int nc, .int (nI le), .ref lA, .int (nI dr), .ref dA, .int (nI dn)])), (tA, .inl (cI, 24, .inl (fun jj => nI (r jj))))] : va_W))) (va_runV (As := [.int (nI t), .int (nI k)]) (rest := [.int (nI (g (p + k)))]) ⟨hx, hb, hml, hown, hts⟩ (j_symbol l D cI cC  m0 gA n tA w fo pA sA mA ma npA nsA nmA le lA dr dA dn ch nc t k r (by omega) hr3 (by omega) (by omega) H.size) (cwV 2 hts (zgood mw_569 mw_571 mw_11 mw_32 mw_572) rfl rfl rfl (by decide +kernel) ⟨Nat.le_of_ble_eq_true rfl, Nat.le_of_ble_eq_true rfl⟩) ⟨zBlind zE0_ok, va_recv hK hP (ci := 6) (q0 := 0) rfl rfl, zAt (av := [.ref m0, .int (nI t), .int (nI k)]) zE0_ok hP hD hK hS hA trivial [0, 2] rfl (by decide)⟩ rfl rfl hl.1 rfl (lv_room (Nat.le_of_ble_eq_true rfl)) dX6_differ_27 ⟨Nat.zero_le _, Nat.zero_le _⟩) hP hD hS hA rfl (fun _ => rfl) (fun r27 u27 H locs w27 hP hD hS => ?_)
      obtain ⟨rfl, w27⟩ := w27
      have hP : va_P D vwCl [(m0, .inr (6, [.ref gA, .int (nI n), .ref tA, .int (nI w), .int (nI fo), .ref pA, .ref sA, .ref mA, .int ch, .int (nI ma), .ref npA, .ref nsA, .ref nmA, .int nc, .int (nI le), .ref lA, .int (nI dr), .ref dA, .int (nI dn)])), (gA, .inl (cI, 96, .inl (fun jj => nI (g jj)))), (tA, .inl (cI, 24, .inl (fun jj => nI (r jj))))] H := hP
      have hD : va_D A [(m0, .inr (6, [.ref gA, .int (nI n), .ref tA, .int (nI w), .int (nI fo), .ref pA, .ref sA, .ref mA, .int ch, .int (nI ma), .ref npA, .ref nsA, .ref nmA, .int nc, .int (nI le), .ref lA, .int (nI dr), .ref dA, .int (nI dn)])), (gA, .inl (cI, 96, .inl (fun jj => nI (g jj)))), (tA, .inl (cI, 24, .inl (fun jj => nI (r jj))))] := hD
      refine zz_ne (tgt := 37) hx hb dX6_differ_30 (by decide) (by have := hg (p + k); omega) (by have := zsy_le (r := r) (t := t) hr3 (show k < w by omega); omega) (fun c30 => ?_) (fun c30 => ?_)
      · skip
        refine lv_iload_n hx hb dX6_differ_37 rfl (lv_at hl 3 rfl) ?_
        refine lv_iconst (v := nI 1) hx hb dX6_differ_38 (by decide) ?_
        refine lv_iadd hx hb dX6_differ_39 ?_
        refine zz_top (y := nI (x + 1)) (zadd (by omega)) ?_
        refine lv_istore_n (lv' := [(3, .int (nI (x + 1))), (0, .ref m0), (1, .int (nI p)), (2, .int (nI t)), (4, .int (nI k))]) hx hb dX6_differ_40 rfl hl (by decide) rfl (fun ls hl => ?_)
        refine lv_iinc (v := nI (k + 1)) (lv' := [(4, .int (nI (k + 1))), (3, .int (nI (x + 1))), (0, .ref m0), (1, .int (nI p)), (2, .int (nI t))]) hx hb dX6_differ_41 hl (k := 4) rfl (zincE (by omega)) (by decide) rfl (fun ls hl => ?_)
        refine lv_goto (tgt := 5) hx hb dX6_differ_44 (by decide) ?_
        exact ih (k + 1) (x + 1) (by omega) (by omega) (by rw [zmm_t c30]; omega) _ _ hP hD hS ls (lv_sub hl [2, 3, 4, 1, 0] rfl)
      · skip
        refine lv_iload_n hx hb dX6_differ_33 rfl (lv_at hl 3 rfl) ?_
        refine lv_goto (tgt := 40) hx hb dX6_differ_34 (by decide) ?_
        refine lv_istore_n (lv' := [(3, .int (nI x)), (0, .ref m0), (1, .int (nI p)), (2, .int (nI t)), (4, .int (nI k))]) hx hb dX6_differ_40 rfl hl (by decide) rfl (fun ls hl => ?_)
        refine lv_iinc (v := nI (k + 1)) (lv' := [(4, .int (nI (k + 1))), (3, .int (nI x)), (0, .ref m0), (1, .int (nI p)), (2, .int (nI t))]) hx hb dX6_differ_41 hl (k := 4) rfl (zincE (by omega)) (by decide) rfl (fun ls hl => ?_)
        refine lv_goto (tgt := 5) hx hb dX6_differ_44 (by decide) ?_
        exact ih (k + 1) x (by omega) (by omega) (by rw [zmm_f c30]; omega) _ _ hP hD hS ls (lv_sub hl [2, 3, 4, 1, 0] rfl)
set_option maxHeartbeats 4000000 in
set_option maxRecDepth 100000 in
theorem j_differ (l : Launch) (D : va_G) (cI cC : ClassId)  (m0 gA n tA w fo pA sA mA ma npA nsA nmA le lA dr dA dn : Nat) (ch nc : Int32) (p t : Nat) (g : Nat → Nat) (r : Nat → Nat) (hn : n ≤ 96) (hg : ∀ i, g i ≤ 4) (hw : w ≤ 24) (hr3 : ∀ i, i < w → r i ≤ 3) (hp : p + w ≤ n) (ht : t ≤ 1) (sz : Nat) : Met l yX6_differ wsX6_differ ({ frames := 1, cells := 0, slots := 0, locals := 22 } : Room) (zPre zE0 D vwCl [(cI, .int), (cC, .char)] [.ref m0, .int (nI p), .int (nI t)] [(m0, .inr (6, [.ref gA, .int (nI n), .ref tA, .int (nI w), .int (nI fo), .ref pA, .ref sA, .ref mA, .int ch, .int (nI ma), .ref npA, .ref nsA, .ref nmA, .int nc, .int (nI le), .ref lA, .int (nI dr), .ref dA, .int (nI dn)])), (gA, .inl (cI, 96, .inl (fun jj => nI (g jj)))), (tA, .inl (cI, 24, .inl (fun jj => nI (r jj))))] sz) (va_Qi (fun (rv : Int32) (uu : Unit) => rv = nI (zmm g (zsy w r t) p w) ∧ True) (fun (uu : Unit) t9 => va_P D vwCl ([(m0, .inr (6, [.ref gA, .int (nI n), .ref tA, .int (nI w), .int (nI fo), .ref pA, .ref sA, .ref mA, .int ch, .int (nI ma), .ref npA, .ref nsA, .ref nmA, .int nc, .int (nI le), .ref lA, .int (nI dr), .ref dA, .int (nI dn)])), (gA, .inl (cI, 96, .inl (fun jj => nI (g jj)))), (tA, .inl (cI, 24, .inl (fun jj => nI (r jj))))]) t9.heap) (va_A [(m0, .inr (6, [.ref gA, .int (nI n), .ref tA, .int (nI w), .int (nI fo), .ref pA, .ref sA, .ref mA, .int ch, .int (nI ma), .ref npA, .ref nsA, .ref nmA, .int nc, .int (nI le), .ref lA, .int (nI dr), .ref dA, .int (nI dn)])), (gA, .inl (cI, 96, .inl (fun jj => nI (g jj)))), (tA, .inl (cI, 24, .inl (fun jj => nI (r jj))))] sz)) 0 0 (va_A [(m0, .inr (6, [.ref gA, .int (nI n), .ref tA, .int (nI w), .int (nI fo), .ref pA, .ref sA, .ref mA, .int ch, .int (nI ma), .ref npA, .ref nsA, .ref nmA, .int nc, .int (nI le), .ref lA, .int (nI dr), .ref dA, .int (nI dn)])), (gA, .inl (cI, 96, .inl (fun jj => nI (g jj)))), (tA, .inl (cI, 24, .inl (fun jj => nI (r jj))))] sz) := by
  refine zMet (cc := cX6_differ) (maxL := 5) (ret := (some .int)) (Qc := fun A => (va_Qi (fun (rv : Int32) (uu : Unit) => rv = nI (zmm g (zsy w r t) p w) ∧ True) (fun (uu : Unit) t9 => va_P D vwCl ([(m0, .inr (6, [.ref gA, .int (nI n), .ref tA, .int (nI w), .int (nI fo), .ref pA, .ref sA, .ref mA, .int ch, .int (nI ma), .ref npA, .ref nsA, .ref nmA, .int nc, .int (nI le), .ref lA, .int (nI dr), .ref dA, .int (nI dn)])), (gA, .inl (cI, 96, .inl (fun jj => nI (g jj)))), (tA, .inl (cI, 24, .inl (fun jj => nI (r jj))))]) t9.heap) A)) (by decide) rfl (Nat.le_of_ble_eq_true rfl) ?_
  intro pr en s0 mi bl me co A hC hA hK hE H locs hP hD hS ls hl
  obtain ⟨hx, hb, hr, hml, hown, hts, hlocks, hin⟩ := id hC
  have hl : lv_has ls 5 [(0, .ref m0), (1, .int (nI p)), (2, .int (nI t))] := hl
  refine lv_iconst (v := nI 0) hx hb dX6_differ_0 (by decide) ?_
  refine lv_istore_n (lv' := [(3, .int (nI 0)), (0, .ref m0), (1, .int (nI p)), (2, .int (nI t))]) hx hb dX6_differ_1 rfl hl (by decide) rfl (fun ls hl => ?_)
  refine lv_iconst (v := nI 0) hx hb dX6_differ_2 (by decide) ?_
  refine lv_istore (lv' := [(4, .int (nI 0)), (3, .int (nI 0)), (0, .ref m0), (1, .int (nI p)), (2, .int (nI t))]) hx hb dX6_differ_3 hl (by decide) rfl (fun ls hl => ?_)
  exact j_differ_L5 l D cI cC  m0 gA n tA w fo pA sA mA ma npA nsA nmA le lA dr dA dn ch nc p t g r hn hg hw hr3 hp ht hC hA hK hE _ 0 0 (Nat.lt_succ_self _) (Nat.zero_le _) rfl _ _ hP hD hS ls (lv_sub hl [2, 3, 4, 1, 0] rfl)
set_option maxHeartbeats 4000000 in
set_option maxRecDepth 100000 in
theorem j_last (l : Launch) (D : va_G) (cI cC : ClassId)  (m0 gA n tA w fo pA sA mA ma npA nsA nmA le lA dr dA dn : Nat) (ch nc : Int32) (i : Int32) (g : Nat → Nat) (hn : n ≤ 96) (hg : ∀ i, g i ≤ 4) (sz : Nat) : Met l yX6_last wsX6_last ({ frames := 4, cells := 0, slots := 0, locals := 91 } : Room) (zPre zE0 D vwCl [(cI, .int), (cC, .char)] [.ref m0, .int i] [(m0, .inr (6, [.ref gA, .int (nI n), .ref tA, .int (nI w), .int (nI fo), .ref pA, .ref sA, .ref mA, .int ch, .int (nI ma), .ref npA, .ref nsA, .ref nmA, .int nc, .int (nI le), .ref lA, .int (nI dr), .ref dA, .int (nI dn)])), (gA, .inl (cI, 96, .inl (fun jj => nI (g jj))))] sz) (va_Qi (fun (rv : Int32) (uu : Unit) => zlastR n g i rv) (fun (uu : Unit) t9 => va_P D vwCl ([(m0, .inr (6, [.ref gA, .int (nI n), .ref tA, .int (nI w), .int (nI fo), .ref pA, .ref sA, .ref mA, .int ch, .int (nI ma), .ref npA, .ref nsA, .ref nmA, .int nc, .int (nI le), .ref lA, .int (nI dr), .ref dA, .int (nI dn)])), (gA, .inl (cI, 96, .inl (fun jj => nI (g jj))))]) t9.heap) (va_A [(m0, .inr (6, [.ref gA, .int (nI n), .ref tA, .int (nI w), .int (nI fo), .ref pA, .ref sA, .ref mA, .int ch, .int (nI ma), .ref npA, .ref nsA, .ref nmA, .int nc, .int (nI le), .ref lA, .int (nI dr), .ref dA, .int (nI dn)])), (gA, .inl (cI, 96, .inl (fun jj => nI (g jj))))] sz)) 0 0 (va_A [(m0, .inr (6, [.ref gA, .int (nI n), .ref tA, .int (nI w), .int (nI fo), .ref pA, .ref sA, .ref mA, .int ch, .int (nI ma), .ref npA, .ref nsA, .ref nmA, .int nc, .int (nI le), .ref lA, .int (nI dr), .ref dA, .int (nI dn)])), (gA, .inl (cI, 96, .inl (fun jj => nI (g jj))))] sz) := by
  refine zMet (cc := cX6_last) (maxL := 3) (ret := (some .int)) (Qc := fun A => (va_Qi (fun (rv : Int32) (uu : Unit) => zlastR n g i rv) (fun (uu : Unit) t9 => va_P D vwCl ([(m0, .inr (6, [.ref gA, .int (nI n), .ref tA, .int (nI w), .int (nI fo), .ref pA, .ref sA, .ref mA, .int ch, .int (nI ma), .ref npA, .ref nsA, .ref nmA, .int nc, .int (nI le), .ref lA, .int (nI dr), .ref dA, .int (nI dn)])), (gA, .inl (cI, 96, .inl (fun jj => nI (g jj))))]) t9.heap) A)) (by decide) rfl (Nat.le_of_ble_eq_true rfl) ?_
  intro pr en s0 mi bl me co A hC hA hK hE H locs hP hD hS ls hl
  obtain ⟨hx, hb, hr, hml, hown, hts, hlocks, hin⟩ := id hC
  have hl : lv_has ls 3 [(0, .ref m0), (1, .int i)] := hl
  refine lv_aload_n hx hb dX6_last_0 rfl (lv_at hl 0 rfl) ?_
  refine lv_iload_n hx hb dX6_last_1 rfl (lv_at hl 1 rfl) ?_
  refine zCi (is := [0, 1]) (wf := (fun (uu : Unit) => ([(m0, .inr (6, [.ref gA, .int (nI n), .ref tA, .int (nI w), .int (nI fo), .ref pA, .ref sA, .ref mA, .int ch, .int (nI ma), .ref npA, .ref nsA, .ref nmA, .int nc, .int (nI le), .ref lA, .int (nI dr), .ref dA, .int (nI dn)])), (gA, .inl (cI, 96, .inl (fun jj => nI (g jj))))] : va_W))) (va_runV (As := [.int i]) (rest := []) ⟨hx, hb, hml, hown, hts⟩ (j_row l D cI cC  m0 gA n tA w fo pA sA mA ma npA nsA nmA le lA dr dA dn ch nc i g (by omega) hg H.size) (cwV 1 hts (zgood mw_540 mw_521 mw_522 mw_32 mw_523) rfl rfl rfl (by decide +kernel) ⟨Nat.le_of_ble_eq_true rfl, Nat.le_of_ble_eq_true rfl⟩) ⟨zBlind zE0_ok, va_recv hK hP (ci := 6) (q0 := 0) rfl rfl, zAt (av := [.ref m0, .int i]) zE0_ok hP hD hK hS hA trivial [0, 1] rfl (by decide)⟩ rfl rfl hl.1 rfl (lv_room (Nat.le_of_ble_eq_true rfl)) dX6_last_2 ⟨Nat.zero_le _, Nat.zero_le _⟩) hP hD hS hA rfl (fun _ => rfl) (fun r2 u2 H locs w2 hP hD hS => ?_)
  have hP : va_P D vwCl [(m0, .inr (6, [.ref gA, .int (nI n), .ref tA, .int (nI w), .int (nI fo), .ref pA, .ref sA, .ref mA, .int ch, .int (nI ma), .ref npA, .ref nsA, .ref nmA, .int nc, .int (nI le), .ref lA, .int (nI dr), .ref dA, .int (nI dn)])), (gA, .inl (cI, 96, .inl (fun jj => nI (g jj))))] H := hP
  have hD : va_D A [(m0, .inr (6, [.ref gA, .int (nI n), .ref tA, .int (nI w), .int (nI fo), .ref pA, .ref sA, .ref mA, .int ch, .int (nI ma), .ref npA, .ref nsA, .ref nmA, .int nc, .int (nI le), .ref lA, .int (nI dr), .ref dA, .int (nI dn)])), (gA, .inl (cI, 96, .inl (fun jj => nI (g jj))))] := hD
  rcases w2 with ⟨q, h1, h2, rfl⟩ | ⟨h1, rfl⟩
  · skip
    refine lv_istore_n (lv' := [(2, .int (nI q)), (0, .ref m0), (1, .int i)]) hx hb dX6_last_5 rfl hl (by decide) rfl (fun ls hl => ?_)
    refine lv_iload_n hx hb dX6_last_6 rfl (lv_at hl 0 rfl) ?_
    refine zz_ge0 (tgt := 14) hx hb dX6_last_7 (by decide) (by omega) ?_
    refine lv_iload_n hx hb dX6_last_14 rfl (lv_at hl 0 rfl) ?_
    refine zz_ne0 (tgt := 22) hx hb dX6_last_15 (by decide) (by omega) (fun c15 => ?_) (fun c15 => ?_)
    · skip
      refine lv_aload_n hx hb dX6_last_22 rfl (lv_at hl 1 rfl) ?_
      refine va_get (D := D) (ci := 6) (v := .ref gA) (C := RX6) (T := TX6) (N := 19) hx hb hts (fun w h => List.mem_cons_of_mem _ (inUX6 w h)) hown hK hP 0 rfl rfl 0 (by decide) (hts _ (List.mem_cons_of_mem _ mw_438)) (fun _ h9 => h9) rfl dX6_last_23 ?_
      refine lv_iload_n hx hb dX6_last_26 rfl (lv_at hl 0 rfl) ?_
      refine lv_iconst (v := nI 1) hx hb dX6_last_27 (by decide) ?_
      refine lv_isub hx hb dX6_last_28 ?_
      refine zz_top (y := nI (q - 1)) (pk_sub (by omega)) ?_
      refine zz_iald (k := q - 1) (f := g) hx hb hK hP 1 0 rfl rfl (by omega) (by omega) dX6_last_29 ?_
      exact zIret hC hS () (Or.inl ⟨q, h1, h2, congrArg nI (by unfold zsb; first | rw [if_pos c15] | rw [if_neg c15])⟩) hP (vp_nar_int _) dX6_last_30
    · skip
      refine lv_iconst (v := nI 5) hx hb dX6_last_18 (by decide) ?_
      refine lv_goto (tgt := 30) hx hb dX6_last_19 (by decide) ?_
      exact zIret hC hS () (Or.inl ⟨q, h1, h2, congrArg nI (by unfold zsb; first | rw [if_pos c15] | rw [if_neg c15])⟩) hP (vp_nar_int _) dX6_last_30
  · skip
    refine lv_istore_n (lv' := [(2, .int ((-1))), (0, .ref m0), (1, .int i)]) hx hb dX6_last_5 rfl hl (by decide) rfl (fun ls hl => ?_)
    refine lv_iload_n hx hb dX6_last_6 rfl (lv_at hl 0 rfl) ?_
    refine lv_if_ge (tgt := 14) hx hb dX6_last_7 (by decide) (fun c7 => ?_) (fun c7 => ?_)
    · skip
      exact absurd c7 (by decide)
    · skip
      refine lv_iconst (v := (-1)) hx hb dX6_last_10 (by decide) ?_
      refine lv_goto (tgt := 30) hx hb dX6_last_11 (by decide) ?_
      exact zIret hC hS () (Or.inr ⟨h1, rfl⟩) hP (vp_nar_int _) dX6_last_30
set_option maxHeartbeats 4000000 in
set_option maxRecDepth 100000 in
theorem j_rank_L31 {pr : Program} {en : Env} {s0 : State} {mi : MethodId} {bl : List Frame} {me : Method} {co : Code} {A : Nat → Prop} (l : Launch) (D : va_G) (cI cC : ClassId)  (m0 gA n tA w fo pA sA mA ma npA nsA nmA le lA dr dA dn : Nat) (ch nc : Int32) (b i : Nat) (g : Nat → Nat) (hn : n ≤ 96) (hg : ∀ i, g i ≤ 4) (hb5 : b ≤ 5) (hi : i ≤ n + 1) (hC : zK pr s0 mi ([.ref m0, .int (nI b), .int (nI i)] : List Value).toArray me co cX6_rank 6 (some .int) yX6_rank wsX6_rank) (hA : ∀ q, s0.heap.size ≤ q → A q) (hK : va_K D vwCl [(cI, .int), (cC, .char)] s0) (hE : zE0 A s0 s0.heap) :
    ∀ (N : Nat) (k x : Nat), n + 1 - k < N → (k ≤ n + 1) → (x = zcnt (fun p => decide (zsb g p = b) && decide (zbef n g p < i)) k) → ∀ (H : Heap) (locs : List Loc), va_P D vwCl [(m0, .inr (6, [.ref gA, .int (nI n), .ref tA, .int (nI w), .int (nI fo), .ref pA, .ref sA, .ref mA, .int ch, .int (nI ma), .ref npA, .ref nsA, .ref nmA, .int nc, .int (nI le), .ref lA, .int (nI dr), .ref dA, .int (nI dn)])), (gA, .inl (cI, 96, .inl (fun jj => nI (g jj))))] H → va_D A [(m0, .inr (6, [.ref gA, .int (nI n), .ref tA, .int (nI w), .int (nI fo), .ref pA, .ref sA, .ref mA, .int ch, .int (nI ma), .ref npA, .ref nsA, .ref nmA, .int nc, .int (nI le), .ref lA, .int (nI dr), .ref dA, .int (nI dn)])), (gA, .inl (cI, 96, .inl (fun jj => nI (g jj))))] → va_S A s0.heap H locs → ∀ ls : Array Slot, lv_has ls 6 [(0, .ref m0), (1, .int (nI b)), (2, .int (nI i)), (3, .int (nI x)), (4, .int (nI k))] → W pr l en ({ frames := 3, cells := 0, slots := 0, locals := 69 } : Room) s0 mi ([.ref m0, .int (nI b), .int (nI i)] : List Value).toArray bl me co H locs 0 0 (MQ bl (va_Qi (fun (rv : Int32) (uu : Unit) => rv = nI (zcnt (fun p => decide (zsb g p = b) && decide (zbef n g p < i)) (n + 1)) ∧ True) (fun (uu : Unit) t9 => va_P D vwCl ([(m0, .inr (6, [.ref gA, .int (nI n), .ref tA, .int (nI w), .int (nI fo), .ref pA, .ref sA, .ref mA, .int ch, .int (nI ma), .ref npA, .ref nsA, .ref nmA, .int nc, .int (nI le), .ref lA, .int (nI dr), .ref dA, .int (nI dn)])), (gA, .inl (cI, 96, .inl (fun jj => nI (g jj))))]) t9.heap) A) ([.ref m0, .int (nI b), .int (nI i)] : List Value).toArray s0 0 0 A) (F0 mi 31 ls []) := by
  obtain ⟨hx, hb, hr, hml, hown, hts, hlocks, hin⟩ := id hC
  intro N
  induction N with
  | zero =>
    intro k x hmea
    omega
  | succ N ih =>
    intro k x hmea hk hx1 H locs hP hD hS ls hl
    refine lv_iload hx hb dX6_rank_31 (lv_at hl 4 rfl) ?_
    refine lv_aload_n hx hb dX6_rank_33 rfl (lv_at hl 0 rfl) ?_
    refine va_get (D := D) (ci := 6) (v := .int (nI n)) (C := RX6) (T := TX6) (N := 19) hx hb hts (fun w h => List.mem_cons_of_mem _ (inUX6 w h)) hown hK hP 0 rfl rfl 1 (by decide) (hts _ (List.mem_cons_of_mem _ mw_439)) (fun _ h9 => h9) rfl dX6_rank_34 ?_
    refine zz_gt (tgt := 90) hx hb dX6_rank_37 (by decide) (by omega) (by omega) (fun c37 => ?_) (fun c37 => ?_)
    · skip
      refine lv_iload_n hx hb dX6_rank_90 rfl (lv_at hl 3 rfl) ?_
      exact zIret hC hS () ⟨congrArg nI (by rw [hx1, show k = n + 1 by omega]), trivial⟩ hP (vp_nar_int _) dX6_rank_91
    · skip
      refine lv_iload hx hb dX6_rank_40 (lv_at hl 4 rfl) ?_
      refine zz_ne0 (tgt := 49) hx hb dX6_rank_42 (by decide) (by omega) (fun c42 => ?_) (fun c42 => ?_)
      · skip
        refine lv_aload_n hx hb dX6_rank_49 rfl (lv_at hl 0 rfl) ?_
        refine va_get (D := D) (ci := 6) (v := .ref gA) (C := RX6) (T := TX6) (N := 19) hx hb hts (fun w h => List.mem_cons_of_mem _ (inUX6 w h)) hown hK hP 0 rfl rfl 0 (by decide) (hts _ (List.mem_cons_of_mem _ mw_438)) (fun _ h9 => h9) rfl dX6_rank_50 ?_
        refine lv_iload hx hb dX6_rank_53 (lv_at hl 4 rfl) ?_
        refine lv_iconst (v := nI 1) hx hb dX6_rank_55 (by decide) ?_
        refine lv_isub hx hb dX6_rank_56 ?_
        refine zz_top (y := nI (k - 1)) (pk_sub (by omega)) ?_
        refine zz_iald (k := k - 1) (f := g) hx hb hK hP 1 0 rfl rfl (by omega) (by omega) dX6_rank_57 ?_
        have hz : zsb g k = g (k - 1) := by unfold zsb; first | exact if_pos c42 | exact if_neg c42
        have hz2 := zbef_le (n := n) (g := g) (p := k) (by omega)
        have hz3 := hg (k - 1)
        have hz4 := zcnt_le (fun p => decide (zsb g p = b) && decide (zbef n g p < i)) k
        refine lv_istore (lv' := [(5, .int (nI (g (k - 1)))), (0, .ref m0), (1, .int (nI b)), (2, .int (nI i)), (3, .int (nI x)), (4, .int (nI k))]) hx hb dX6_rank_58 hl (by decide) rfl (fun ls hl => ?_)
        refine lv_iload hx hb dX6_rank_60 (lv_at hl 0 rfl) ?_
        refine lv_iload_n hx hb dX6_rank_62 rfl (lv_at hl 2 rfl) ?_
        refine zz_ne (tgt := 82) hx hb dX6_rank_63 (by decide) (by omega) (by omega) (fun c63 => ?_) (fun c63 => ?_)
        · skip
          refine lv_iload_n hx hb dX6_rank_82 rfl (lv_at hl 4 rfl) ?_
          refine lv_istore_n (lv' := [(3, .int (nI x)), (5, .int (nI (g (k - 1)))), (0, .ref m0), (1, .int (nI b)), (2, .int (nI i)), (4, .int (nI k))]) hx hb dX6_rank_83 rfl hl (by decide) rfl (fun ls hl => ?_)
          refine lv_iinc (v := nI (k + 1)) (lv' := [(4, .int (nI (k + 1))), (3, .int (nI x)), (5, .int (nI (g (k - 1)))), (0, .ref m0), (1, .int (nI b)), (2, .int (nI i))]) hx hb dX6_rank_84 hl (k := 5) rfl (zincE (by omega)) (by decide) rfl (fun ls hl => ?_)
          refine lv_goto (tgt := 31) hx hb dX6_rank_87 (by decide) ?_
          exact ih (k + 1) x (by omega) (by omega) (by rw [zcnt_f (by simp only [Bool.and_eq_true, decide_eq_true_eq]; omega)]; omega) _ _ hP hD hS ls (lv_sub hl [3, 4, 5, 1, 0] rfl)
        · skip
          refine lv_aload_n hx hb dX6_rank_66 rfl (lv_at hl 1 rfl) ?_
          refine lv_iload hx hb dX6_rank_67 (lv_at hl 5 rfl) ?_
          refine zCi (is := [0, 1]) (wf := (fun (uu : Unit) => ([(m0, .inr (6, [.ref gA, .int (nI n), .ref tA, .int (nI w), .int (nI fo), .ref pA, .ref sA, .ref mA, .int ch, .int (nI ma), .ref npA, .ref nsA, .ref nmA, .int nc, .int (nI le), .ref lA, .int (nI dr), .ref dA, .int (nI dn)])), (gA, .inl (cI, 96, .inl (fun jj => nI (g jj))))] : va_W))) (va_runV (As := [.int (nI k)]) (rest := []) ⟨hx, hb, hml, hown, hts⟩ (j_before l D cI cC  m0 gA n tA w fo pA sA mA ma npA nsA nmA le lA dr dA dn ch nc k g (by omega) hg (by omega) H.size) (cwV 1 hts (zgood mw_524 mw_526 mw_5 mw_32 mw_527) rfl rfl rfl (by decide +kernel) ⟨Nat.le_of_ble_eq_true rfl, Nat.le_of_ble_eq_true rfl⟩) ⟨zBlind zE0_ok, va_recv hK hP (ci := 6) (q0 := 0) rfl rfl, zAt (av := [.ref m0, .int (nI k)]) zE0_ok hP hD hK hS hA trivial [0, 1] rfl (by decide)⟩ rfl rfl hl.1 rfl (lv_room (Nat.le_of_ble_eq_true rfl)) dX6_rank_69 ⟨Nat.zero_le _, Nat.zero_le _⟩) hP hD hS hA rfl (fun _ => rfl) (fun r69 u69 H locs w69 hP hD hS => ?_)
          obtain ⟨rfl, w69⟩ := w69
          have hP : va_P D vwCl [(m0, .inr (6, [.ref gA, .int (nI n), .ref tA, .int (nI w), .int (nI fo), .ref pA, .ref sA, .ref mA, .int ch, .int (nI ma), .ref npA, .ref nsA, .ref nmA, .int nc, .int (nI le), .ref lA, .int (nI dr), .ref dA, .int (nI dn)])), (gA, .inl (cI, 96, .inl (fun jj => nI (g jj))))] H := hP
          have hD : va_D A [(m0, .inr (6, [.ref gA, .int (nI n), .ref tA, .int (nI w), .int (nI fo), .ref pA, .ref sA, .ref mA, .int ch, .int (nI ma), .ref npA, .ref nsA, .ref nmA, .int nc, .int (nI le), .ref lA, .int (nI dr), .ref dA, .int (nI dn)])), (gA, .inl (cI, 96, .inl (fun jj => nI (g jj))))] := hD
          refine lv_iload_n hx hb dX6_rank_72 rfl (lv_at hl 3 rfl) ?_
          refine zz_ge (tgt := 82) hx hb dX6_rank_73 (by decide) (by omega) (by omega) (fun c73 => ?_) (fun c73 => ?_)
          · skip
            refine lv_iload_n hx hb dX6_rank_82 rfl (lv_at hl 4 rfl) ?_
            refine lv_istore_n (lv' := [(3, .int (nI x)), (5, .int (nI (g (k - 1)))), (0, .ref m0), (1, .int (nI b)), (2, .int (nI i)), (4, .int (nI k))]) hx hb dX6_rank_83 rfl hl (by decide) rfl (fun ls hl => ?_)
            refine lv_iinc (v := nI (k + 1)) (lv' := [(4, .int (nI (k + 1))), (3, .int (nI x)), (5, .int (nI (g (k - 1)))), (0, .ref m0), (1, .int (nI b)), (2, .int (nI i))]) hx hb dX6_rank_84 hl (k := 5) rfl (zincE (by omega)) (by decide) rfl (fun ls hl => ?_)
            refine lv_goto (tgt := 31) hx hb dX6_rank_87 (by decide) ?_
            exact ih (k + 1) x (by omega) (by omega) (by rw [zcnt_f (by simp only [Bool.and_eq_true, decide_eq_true_eq]; omega)]; omega) _ _ hP hD hS ls (lv_sub hl [3, 4, 5, 1, 0] rfl)
          · skip
            refine lv_iload_n hx hb dX6_rank_76 rfl (lv_at hl 4 rfl) ?_
            refine lv_iconst (v := nI 1) hx hb dX6_rank_77 (by decide) ?_
            refine lv_iadd hx hb dX6_rank_78 ?_
            refine zz_top (y := nI (x + 1)) (zadd (by omega)) ?_
            refine lv_goto (tgt := 83) hx hb dX6_rank_79 (by decide) ?_
            refine lv_istore_n (lv' := [(3, .int (nI (x + 1))), (5, .int (nI (g (k - 1)))), (0, .ref m0), (1, .int (nI b)), (2, .int (nI i)), (4, .int (nI k))]) hx hb dX6_rank_83 rfl hl (by decide) rfl (fun ls hl => ?_)
            refine lv_iinc (v := nI (k + 1)) (lv' := [(4, .int (nI (k + 1))), (3, .int (nI (x + 1))), (5, .int (nI (g (k - 1)))), (0, .ref m0), (1, .int (nI b)), (2, .int (nI i))]) hx hb dX6_rank_84 hl (k := 5) rfl (zincE (by omega)) (by decide) rfl (fun ls hl => ?_)
            refine lv_goto (tgt := 31) hx hb dX6_rank_87 (by decide) ?_
            exact ih (k + 1) (x + 1) (by omega) (by omega) (by rw [zcnt_t (by simp only [Bool.and_eq_true, decide_eq_true_eq]; omega)]; omega) _ _ hP hD hS ls (lv_sub hl [3, 4, 5, 1, 0] rfl)
      · skip
        refine lv_iconst (v := nI 5) hx hb dX6_rank_45 (by decide) ?_
        refine lv_goto (tgt := 58) hx hb dX6_rank_46 (by decide) ?_
        have hz : zsb g k = 5 := by unfold zsb; first | exact if_pos c42 | exact if_neg c42
        have hz2 := zbef_le (n := n) (g := g) (p := k) (by omega)
        have hz3 := hg (k - 1)
        have hz4 := zcnt_le (fun p => decide (zsb g p = b) && decide (zbef n g p < i)) k
        refine lv_istore (lv' := [(5, .int (nI 5)), (0, .ref m0), (1, .int (nI b)), (2, .int (nI i)), (3, .int (nI x)), (4, .int (nI k))]) hx hb dX6_rank_58 hl (by decide) rfl (fun ls hl => ?_)
        refine lv_iload hx hb dX6_rank_60 (lv_at hl 0 rfl) ?_
        refine lv_iload_n hx hb dX6_rank_62 rfl (lv_at hl 2 rfl) ?_
        refine zz_ne (tgt := 82) hx hb dX6_rank_63 (by decide) (by omega) (by omega) (fun c63 => ?_) (fun c63 => ?_)
        · skip
          refine lv_iload_n hx hb dX6_rank_82 rfl (lv_at hl 4 rfl) ?_
          refine lv_istore_n (lv' := [(3, .int (nI x)), (5, .int (nI 5)), (0, .ref m0), (1, .int (nI b)), (2, .int (nI i)), (4, .int (nI k))]) hx hb dX6_rank_83 rfl hl (by decide) rfl (fun ls hl => ?_)
          refine lv_iinc (v := nI (k + 1)) (lv' := [(4, .int (nI (k + 1))), (3, .int (nI x)), (5, .int (nI 5)), (0, .ref m0), (1, .int (nI b)), (2, .int (nI i))]) hx hb dX6_rank_84 hl (k := 5) rfl (zincE (by omega)) (by decide) rfl (fun ls hl => ?_)
          refine lv_goto (tgt := 31) hx hb dX6_rank_87 (by decide) ?_
          exact ih (k + 1) x (by omega) (by omega) (by rw [zcnt_f (by simp only [Bool.and_eq_true, decide_eq_true_eq]; omega)]; omega) _ _ hP hD hS ls (lv_sub hl [3, 4, 5, 1, 0] rfl)
        · skip
          refine lv_aload_n hx hb dX6_rank_66 rfl (lv_at hl 1 rfl) ?_
          refine lv_iload hx hb dX6_rank_67 (lv_at hl 5 rfl) ?_
          refine zCi (is := [0, 1]) (wf := (fun (uu : Unit) => ([(m0, .inr (6, [.ref gA, .int (nI n), .ref tA, .int (nI w), .int (nI fo), .ref pA, .ref sA, .ref mA, .int ch, .int (nI ma), .ref npA, .ref nsA, .ref nmA, .int nc, .int (nI le), .ref lA, .int (nI dr), .ref dA, .int (nI dn)])), (gA, .inl (cI, 96, .inl (fun jj => nI (g jj))))] : va_W))) (va_runV (As := [.int (nI k)]) (rest := []) ⟨hx, hb, hml, hown, hts⟩ (j_before l D cI cC  m0 gA n tA w fo pA sA mA ma npA nsA nmA le lA dr dA dn ch nc k g (by omega) hg (by omega) H.size) (cwV 1 hts (zgood mw_524 mw_526 mw_5 mw_32 mw_527) rfl rfl rfl (by decide +kernel) ⟨Nat.le_of_ble_eq_true rfl, Nat.le_of_ble_eq_true rfl⟩) ⟨zBlind zE0_ok, va_recv hK hP (ci := 6) (q0 := 0) rfl rfl, zAt (av := [.ref m0, .int (nI k)]) zE0_ok hP hD hK hS hA trivial [0, 1] rfl (by decide)⟩ rfl rfl hl.1 rfl (lv_room (Nat.le_of_ble_eq_true rfl)) dX6_rank_69 ⟨Nat.zero_le _, Nat.zero_le _⟩) hP hD hS hA rfl (fun _ => rfl) (fun r69 u69 H locs w69 hP hD hS => ?_)
          obtain ⟨rfl, w69⟩ := w69
          have hP : va_P D vwCl [(m0, .inr (6, [.ref gA, .int (nI n), .ref tA, .int (nI w), .int (nI fo), .ref pA, .ref sA, .ref mA, .int ch, .int (nI ma), .ref npA, .ref nsA, .ref nmA, .int nc, .int (nI le), .ref lA, .int (nI dr), .ref dA, .int (nI dn)])), (gA, .inl (cI, 96, .inl (fun jj => nI (g jj))))] H := hP
          have hD : va_D A [(m0, .inr (6, [.ref gA, .int (nI n), .ref tA, .int (nI w), .int (nI fo), .ref pA, .ref sA, .ref mA, .int ch, .int (nI ma), .ref npA, .ref nsA, .ref nmA, .int nc, .int (nI le), .ref lA, .int (nI dr), .ref dA, .int (nI dn)])), (gA, .inl (cI, 96, .inl (fun jj => nI (g jj))))] := hD
          refine lv_iload_n hx hb dX6_rank_72 rfl (lv_at hl 3 rfl) ?_
          refine zz_ge (tgt := 82) hx hb dX6_rank_73 (by decide) (by omega) (by omega) (fun c73 => ?_) (fun c73 => ?_)
          · skip
            refine lv_iload_n hx hb dX6_rank_82 rfl (lv_at hl 4 rfl) ?_
            refine lv_istore_n (lv' := [(3, .int (nI x)), (5, .int (nI 5)), (0, .ref m0), (1, .int (nI b)), (2, .int (nI i)), (4, .int (nI k))]) hx hb dX6_rank_83 rfl hl (by decide) rfl (fun ls hl => ?_)
            refine lv_iinc (v := nI (k + 1)) (lv' := [(4, .int (nI (k + 1))), (3, .int (nI x)), (5, .int (nI 5)), (0, .ref m0), (1, .int (nI b)), (2, .int (nI i))]) hx hb dX6_rank_84 hl (k := 5) rfl (zincE (by omega)) (by decide) rfl (fun ls hl => ?_)
            refine lv_goto (tgt := 31) hx hb dX6_rank_87 (by decide) ?_
            exact ih (k + 1) x (by omega) (by omega) (by rw [zcnt_f (by simp only [Bool.and_eq_true, decide_eq_true_eq]; omega)]; omega) _ _ hP hD hS ls (lv_sub hl [3, 4, 5, 1, 0] rfl)
          · skip
            refine lv_iload_n hx hb dX6_rank_76 rfl (lv_at hl 4 rfl) ?_
            refine lv_iconst (v := nI 1) hx hb dX6_rank_77 (by decide) ?_
            refine lv_iadd hx hb dX6_rank_78 ?_
            refine zz_top (y := nI (x + 1)) (zadd (by omega)) ?_
            refine lv_goto (tgt := 83) hx hb dX6_rank_79 (by decide) ?_
            refine lv_istore_n (lv' := [(3, .int (nI (x + 1))), (5, .int (nI 5)), (0, .ref m0), (1, .int (nI b)), (2, .int (nI i)), (4, .int (nI k))]) hx hb dX6_rank_83 rfl hl (by decide) rfl (fun ls hl => ?_)
            refine lv_iinc (v := nI (k + 1)) (lv' := [(4, .int (nI (k + 1))), (3, .int (nI (x + 1))), (5, .int (nI 5)), (0, .ref m0), (1, .int (nI b)), (2, .int (nI i))]) hx hb dX6_rank_84 hl (k := 5) rfl (zincE (by omega)) (by decide) rfl (fun ls hl => ?_)
            refine lv_goto (tgt := 31) hx hb dX6_rank_87 (by decide) ?_
            exact ih (k + 1) (x + 1) (by omega) (by omega) (by rw [zcnt_t (by simp only [Bool.and_eq_true, decide_eq_true_eq]; omega)]; omega) _ _ hP hD hS ls (lv_sub hl [3, 4, 5, 1, 0] rfl)
set_option maxHeartbeats 4000000 in
set_option maxRecDepth 100000 in
theorem j_rank (l : Launch) (D : va_G) (cI cC : ClassId)  (m0 gA n tA w fo pA sA mA ma npA nsA nmA le lA dr dA dn : Nat) (ch nc : Int32) (b i : Nat) (g : Nat → Nat) (hn : n ≤ 96) (hg : ∀ i, g i ≤ 4) (hb5 : b ≤ 5) (hi : i ≤ n + 1) (sz : Nat) : Met l yX6_rank wsX6_rank ({ frames := 3, cells := 0, slots := 0, locals := 69 } : Room) (zPre zE0 D vwCl [(cI, .int), (cC, .char)] [.ref m0, .int (nI b), .int (nI i)] [(m0, .inr (6, [.ref gA, .int (nI n), .ref tA, .int (nI w), .int (nI fo), .ref pA, .ref sA, .ref mA, .int ch, .int (nI ma), .ref npA, .ref nsA, .ref nmA, .int nc, .int (nI le), .ref lA, .int (nI dr), .ref dA, .int (nI dn)])), (gA, .inl (cI, 96, .inl (fun jj => nI (g jj))))] sz) (va_Qi (fun (rv : Int32) (uu : Unit) => rv = nI (zcnt (fun p => decide (zsb g p = b) && decide (zbef n g p < i)) (n + 1)) ∧ True) (fun (uu : Unit) t9 => va_P D vwCl ([(m0, .inr (6, [.ref gA, .int (nI n), .ref tA, .int (nI w), .int (nI fo), .ref pA, .ref sA, .ref mA, .int ch, .int (nI ma), .ref npA, .ref nsA, .ref nmA, .int nc, .int (nI le), .ref lA, .int (nI dr), .ref dA, .int (nI dn)])), (gA, .inl (cI, 96, .inl (fun jj => nI (g jj))))]) t9.heap) (va_A [(m0, .inr (6, [.ref gA, .int (nI n), .ref tA, .int (nI w), .int (nI fo), .ref pA, .ref sA, .ref mA, .int ch, .int (nI ma), .ref npA, .ref nsA, .ref nmA, .int nc, .int (nI le), .ref lA, .int (nI dr), .ref dA, .int (nI dn)])), (gA, .inl (cI, 96, .inl (fun jj => nI (g jj))))] sz)) 0 0 (va_A [(m0, .inr (6, [.ref gA, .int (nI n), .ref tA, .int (nI w), .int (nI fo), .ref pA, .ref sA, .ref mA, .int ch, .int (nI ma), .ref npA, .ref nsA, .ref nmA, .int nc, .int (nI le), .ref lA, .int (nI dr), .ref dA, .int (nI dn)])), (gA, .inl (cI, 96, .inl (fun jj => nI (g jj))))] sz) := by
  refine zMet (cc := cX6_rank) (maxL := 6) (ret := (some .int)) (Qc := fun A => (va_Qi (fun (rv : Int32) (uu : Unit) => rv = nI (zcnt (fun p => decide (zsb g p = b) && decide (zbef n g p < i)) (n + 1)) ∧ True) (fun (uu : Unit) t9 => va_P D vwCl ([(m0, .inr (6, [.ref gA, .int (nI n), .ref tA, .int (nI w), .int (nI fo), .ref pA, .ref sA, .ref mA, .int ch, .int (nI ma), .ref npA, .ref nsA, .ref nmA, .int nc, .int (nI le), .ref lA, .int (nI dr), .ref dA, .int (nI dn)])), (gA, .inl (cI, 96, .inl (fun jj => nI (g jj))))]) t9.heap) A)) (by decide) rfl (Nat.le_of_ble_eq_true rfl) ?_
  intro pr en s0 mi bl me co A hC hA hK hE H locs hP hD hS ls hl
  obtain ⟨hx, hb, hr, hml, hown, hts, hlocks, hin⟩ := id hC
  have hl : lv_has ls 6 [(0, .ref m0), (1, .int (nI b)), (2, .int (nI i))] := hl
  refine lv_iload_n hx hb dX6_rank_0 rfl (lv_at hl 1 rfl) ?_
  refine zz_lt0 (tgt := 23) hx hb dX6_rank_1 (by decide) (by omega) ?_
  refine lv_iload_n hx hb dX6_rank_4 rfl (lv_at hl 1 rfl) ?_
  refine lv_iconst (v := nI 5) hx hb dX6_rank_5 (by decide) ?_
  refine zz_gt (tgt := 23) hx hb dX6_rank_6 (by decide) (by omega) (by omega) (fun c6 => ?_) (fun c6 => ?_)
  · skip
    exact absurd c6 (by omega)
  · skip
    refine lv_iload_n hx hb dX6_rank_9 rfl (lv_at hl 2 rfl) ?_
    refine zz_lt0 (tgt := 23) hx hb dX6_rank_10 (by decide) (by omega) ?_
    refine lv_iload_n hx hb dX6_rank_13 rfl (lv_at hl 2 rfl) ?_
    refine lv_aload_n hx hb dX6_rank_14 rfl (lv_at hl 0 rfl) ?_
    refine va_get (D := D) (ci := 6) (v := .int (nI n)) (C := RX6) (T := TX6) (N := 19) hx hb hts (fun w h => List.mem_cons_of_mem _ (inUX6 w h)) hown hK hP 0 rfl rfl 1 (by decide) (hts _ (List.mem_cons_of_mem _ mw_439)) (fun _ h9 => h9) rfl dX6_rank_15 ?_
    refine lv_iconst (v := nI 1) hx hb dX6_rank_18 (by decide) ?_
    refine lv_iadd hx hb dX6_rank_19 ?_
    refine zz_top (y := nI (n + 1)) (zadd (by omega)) ?_
    refine zz_le (tgt := 26) hx hb dX6_rank_20 (by decide) (by omega) (by omega) (fun c20 => ?_) (fun c20 => ?_)
    · skip
      refine lv_iconst (v := nI 0) hx hb dX6_rank_26 (by decide) ?_
      refine lv_istore_n (lv' := [(3, .int (nI 0)), (0, .ref m0), (1, .int (nI b)), (2, .int (nI i))]) hx hb dX6_rank_27 rfl hl (by decide) rfl (fun ls hl => ?_)
      refine lv_iconst (v := nI 0) hx hb dX6_rank_28 (by decide) ?_
      refine lv_istore (lv' := [(4, .int (nI 0)), (3, .int (nI 0)), (0, .ref m0), (1, .int (nI b)), (2, .int (nI i))]) hx hb dX6_rank_29 hl (by decide) rfl (fun ls hl => ?_)
      exact j_rank_L31 l D cI cC  m0 gA n tA w fo pA sA mA ma npA nsA nmA le lA dr dA dn ch nc b i g hn hg hb5 hi hC hA hK hE _ 0 0 (Nat.lt_succ_self _) (Nat.zero_le _) rfl _ _ hP hD hS ls (lv_sub hl [2, 3, 4, 1, 0] rfl)
    · skip
      exact absurd c20 (by omega)
set_option maxHeartbeats 4000000 in
set_option maxRecDepth 100000 in
theorem j_rank0 (l : Launch) (D : va_G) (cI cC : ClassId)  (m0 gA n tA w fo pA sA mA ma npA nsA nmA le lA dr dA dn : Nat) (ch nc : Int32) (b i : Int32) (g : Nat → Nat) (hn : n ≤ 96) (hbad : (b < 0 ∨ nI 5 < b) ∨ (i < 0 ∨ nI (n + 1) < i)) (sz : Nat) : Met l yX6_rank wsX6_rank ({ frames := 0, cells := 0, slots := 0, locals := 0 } : Room) (zPre zE0 D vwCl [(cI, .int), (cC, .char)] [.ref m0, .int b, .int i] [(m0, .inr (6, [.ref gA, .int (nI n), .ref tA, .int (nI w), .int (nI fo), .ref pA, .ref sA, .ref mA, .int ch, .int (nI ma), .ref npA, .ref nsA, .ref nmA, .int nc, .int (nI le), .ref lA, .int (nI dr), .ref dA, .int (nI dn)])), (gA, .inl (cI, 96, .inl (fun jj => nI (g jj))))] sz) (va_Qi (fun (rv : Int32) (uu : Unit) => rv = (-2) ∧ True) (fun (uu : Unit) t9 => va_P D vwCl ([(m0, .inr (6, [.ref gA, .int (nI n), .ref tA, .int (nI w), .int (nI fo), .ref pA, .ref sA, .ref mA, .int ch, .int (nI ma), .ref npA, .ref nsA, .ref nmA, .int nc, .int (nI le), .ref lA, .int (nI dr), .ref dA, .int (nI dn)])), (gA, .inl (cI, 96, .inl (fun jj => nI (g jj))))]) t9.heap) (va_A [(m0, .inr (6, [.ref gA, .int (nI n), .ref tA, .int (nI w), .int (nI fo), .ref pA, .ref sA, .ref mA, .int ch, .int (nI ma), .ref npA, .ref nsA, .ref nmA, .int nc, .int (nI le), .ref lA, .int (nI dr), .ref dA, .int (nI dn)])), (gA, .inl (cI, 96, .inl (fun jj => nI (g jj))))] sz)) 0 0 (va_A [(m0, .inr (6, [.ref gA, .int (nI n), .ref tA, .int (nI w), .int (nI fo), .ref pA, .ref sA, .ref mA, .int ch, .int (nI ma), .ref npA, .ref nsA, .ref nmA, .int nc, .int (nI le), .ref lA, .int (nI dr), .ref dA, .int (nI dn)])), (gA, .inl (cI, 96, .inl (fun jj => nI (g jj))))] sz) := by
  refine zMet (cc := cX6_rank) (maxL := 6) (ret := (some .int)) (Qc := fun A => (va_Qi (fun (rv : Int32) (uu : Unit) => rv = (-2) ∧ True) (fun (uu : Unit) t9 => va_P D vwCl ([(m0, .inr (6, [.ref gA, .int (nI n), .ref tA, .int (nI w), .int (nI fo), .ref pA, .ref sA, .ref mA, .int ch, .int (nI ma), .ref npA, .ref nsA, .ref nmA, .int nc, .int (nI le), .ref lA, .int (nI dr), .ref dA, .int (nI dn)])), (gA, .inl (cI, 96, .inl (fun jj => nI (g jj))))]) t9.heap) A)) (by decide) rfl (Nat.le_of_ble_eq_true rfl) ?_
  intro pr en s0 mi bl me co A hC hA hK hE H locs hP hD hS ls hl
  obtain ⟨hx, hb, hr, hml, hown, hts, hlocks, hin⟩ := id hC
  have hl : lv_has ls 6 [(0, .ref m0), (1, .int b), (2, .int i)] := hl
  refine lv_iload_n hx hb dX6_rank_0 rfl (lv_at hl 1 rfl) ?_
  refine lv_if_lt (tgt := 23) hx hb dX6_rank_1 (by decide) (fun c1 => ?_) (fun c1 => ?_)
  · skip
    refine lv_bipush (v := (-2)) hx hb dX6_rank_23 (by decide) ?_
    exact zIret hC hS () ⟨rfl, trivial⟩ hP (vp_nar_int _) dX6_rank_25
  · skip
    refine lv_iload_n hx hb dX6_rank_4 rfl (lv_at hl 1 rfl) ?_
    refine lv_iconst (v := nI 5) hx hb dX6_rank_5 (by decide) ?_
    refine lv_icmp_gt (tgt := 23) hx hb dX6_rank_6 (by decide) (fun c6 => ?_) (fun c6 => ?_)
    · skip
      refine lv_bipush (v := (-2)) hx hb dX6_rank_23 (by decide) ?_
      exact zIret hC hS () ⟨rfl, trivial⟩ hP (vp_nar_int _) dX6_rank_25
    · skip
      refine lv_iload_n hx hb dX6_rank_9 rfl (lv_at hl 2 rfl) ?_
      refine lv_if_lt (tgt := 23) hx hb dX6_rank_10 (by decide) (fun c10 => ?_) (fun c10 => ?_)
      · skip
        refine lv_bipush (v := (-2)) hx hb dX6_rank_23 (by decide) ?_
        exact zIret hC hS () ⟨rfl, trivial⟩ hP (vp_nar_int _) dX6_rank_25
      · skip
        refine lv_iload_n hx hb dX6_rank_13 rfl (lv_at hl 2 rfl) ?_
        refine lv_aload_n hx hb dX6_rank_14 rfl (lv_at hl 0 rfl) ?_
        refine va_get (D := D) (ci := 6) (v := .int (nI n)) (C := RX6) (T := TX6) (N := 19) hx hb hts (fun w h => List.mem_cons_of_mem _ (inUX6 w h)) hown hK hP 0 rfl rfl 1 (by decide) (hts _ (List.mem_cons_of_mem _ mw_439)) (fun _ h9 => h9) rfl dX6_rank_15 ?_
        refine lv_iconst (v := nI 1) hx hb dX6_rank_18 (by decide) ?_
        refine lv_iadd hx hb dX6_rank_19 ?_
        refine zz_top (y := nI (n + 1)) (zadd (by omega)) ?_
        refine lv_icmp_le (tgt := 26) hx hb dX6_rank_20 (by decide) (fun c20 => ?_) (fun c20 => ?_)
        · skip
          exact absurd hbad (fun q => by rcases q with (q | q) | (q | q); exact c1 q; exact c6 q; exact c10 q; exact absurd q (Int32.not_lt.mpr c20))
        · skip
          refine lv_bipush (v := (-2)) hx hb dX6_rank_23 (by decide) ?_
          exact zIret hC hS () ⟨rfl, trivial⟩ hP (vp_nar_int _) dX6_rank_25
