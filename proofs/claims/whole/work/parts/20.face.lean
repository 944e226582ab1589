set_option maxHeartbeats 4000000 in
set_option maxRecDepth 100000 in
theorem f_base (l : Launch) (D : va_G) (cI cC : ClassId)  (x0 G S rd td la sp dn : Nat) (ro od so ga n : Nat) (x : Nat) (g : Nat → Nat) (hn : n < 96) (hx4 : x ≤ 4) (sz : Nat) : Met l yX5_base wsX5_base ({ frames := 2, cells := 0, slots := 0, locals := 41 } : Room) (zPre zEn D vwCl [(cI, .int), (cC, .char)] [.ref x0, .int (nI x)] [(x0, .inr (5, [.ref G, .ref S, .ref rd, .ref td, .ref la, .ref sp, .int (nI dn)])), (G, .inr (0, [.ref ga, .int (nI n)])), (ga, .inl (cI, 96, .inl (fun jj => nI (g jj)))), (S, .inr (4, [.ref G, .ref ro, .ref od, .int (nI so)]))] sz) (va_Qi (fun (rv : Int32) (uu : Unit) => rv = nI 1 ∧ True) (fun (uu : Unit) t9 => va_P D vwCl ([(x0, .inr (5, [.ref G, .ref S, .ref rd, .ref td, .ref la, .ref sp, .int (nI dn)])), (G, .inr (0, [.ref ga, .int (nI (n + 1))])), (ga, .inl (cI, 96, .inl (fun jj => nI (zup g n x jj)))), (S, .inr (4, [.ref G, .ref ro, .ref od, .int (nI 0)]))]) t9.heap) (va_A [(x0, .inr (5, [.ref G, .ref S, .ref rd, .ref td, .ref la, .ref sp, .int (nI dn)])), (G, .inr (0, [.ref ga, .int (nI n)])), (ga, .inl (cI, 96, .inl (fun jj => nI (g jj)))), (S, .inr (4, [.ref G, .ref ro, .ref od, .int (nI so)]))] sz)) 0 0 (va_A [(x0, .inr (5, [.ref G, .ref S, .ref rd, .ref td, .ref la, .ref sp, .int (nI dn)])), (G, .inr (0, [.ref ga, .int (nI n)])), (ga, .inl (cI, 96, .inl (fun jj => nI (g jj)))), (S, .inr (4, [.ref G, .ref ro, .ref od, .int (nI so)]))] sz) := by
  refine zMet (cc := cX5_base) (maxL := 2) (ret := (some .boolean)) (Qc := fun A => (va_Qi (fun (rv : Int32) (uu : Unit) => rv = nI 1 ∧ True) (fun (uu : Unit) t9 => va_P D vwCl ([(x0, .inr (5, [.ref G, .ref S, .ref rd, .ref td, .ref la, .ref sp, .int (nI dn)])), (G, .inr (0, [.ref ga, .int (nI (n + 1))])), (ga, .inl (cI, 96, .inl (fun jj => nI (zup g n x jj)))), (S, .inr (4, [.ref G, .ref ro, .ref od, .int (nI 0)]))]) t9.heap) A)) (by decide) rfl (Nat.le_of_ble_eq_true rfl) ?_
  intro pr en s0 mi bl me co A hC hA hK hE H locs hP hD hS ls hl
  obtain ⟨hx, hb, hr, hml, hown, hts, hlocks, hin⟩ := id hC
  have hl : lv_has ls 2 [(0, .ref x0), (1, .int (nI x))] := hl
  refine lv_iload_n hx hb dX5_base_0 rfl (lv_at hl 1 rfl) ?_
  refine zz_lt0 (tgt := 19) hx hb dX5_base_1 (by decide) (by omega) ?_
  refine lv_iload_n hx hb dX5_base_4 rfl (lv_at hl 1 rfl) ?_
  refine lv_iconst (v := nI 4) hx hb dX5_base_5 (by decide) ?_
  refine zz_gt (tgt := 19) hx hb dX5_base_6 (by decide) (by omega) (by omega) (fun c6 => ?_) (fun c6 => ?_)
  · skip
    exact absurd c6 (by omega)
  · skip
    refine lv_aload_n hx hb dX5_base_9 rfl (lv_at hl 0 rfl) ?_
    refine va_get (D := D) (ci := 5) (v := .ref G) (C := RX5) (T := TX5) (N := 7) hx hb hts (fun w h => List.mem_cons_of_mem _ (inUX5 w h)) hown hK hP 0 rfl rfl 0 (by decide) (hts _ (List.mem_cons_of_mem _ mw_154)) (fun _ h9 => h9) rfl dX5_base_10 ?_
    refine zCi (is := [1, 2]) (wf := (fun (uu : Unit) => ([(G, .inr (0, [.ref ga, .int (nI n)])), (ga, .inl (cI, 96, .inl (fun jj => nI (g jj))))] : va_W))) (va_runV (As := []) (rest := []) ⟨hx, hb, hml, hown, hts⟩ (k_isFull l D cI cC  G ga n 96 g (by omega) (by omega) H.size) (cwV 0 hts (zgood mw_180 mw_181 mw_182 mw_27 mw_183) rfl rfl rfl (by decide +kernel) ⟨Nat.le_of_ble_eq_true rfl, Nat.le_of_ble_eq_true rfl⟩) ⟨zBlind zE0_ok, va_recv hK hP (ci := 0) (q0 := 1) rfl rfl, zAt (av := [.ref G]) zE0_ok hP hD hK hS hA trivial [1, 2] rfl (by decide)⟩ rfl rfl hl.1 rfl (lv_room (Nat.le_of_ble_eq_true rfl)) dX5_base_13 ⟨Nat.zero_le _, Nat.zero_le _⟩) hP hD hS hA rfl (fun _ => rfl) (fun r13 u13 H locs w13 hP hD hS => ?_)
    obtain ⟨rfl, w13⟩ := w13
    have hP : va_P D vwCl [(x0, .inr (5, [.ref G, .ref S, .ref rd, .ref td, .ref la, .ref sp, .int (nI dn)])), (G, .inr (0, [.ref ga, .int (nI n)])), (ga, .inl (cI, 96, .inl (fun jj => nI (g jj)))), (S, .inr (4, [.ref G, .ref ro, .ref od, .int (nI so)]))] H := hP
    have hD : va_D A [(x0, .inr (5, [.ref G, .ref S, .ref rd, .ref td, .ref la, .ref sp, .int (nI dn)])), (G, .inr (0, [.ref ga, .int (nI n)])), (ga, .inl (cI, 96, .inl (fun jj => nI (g jj)))), (S, .inr (4, [.ref G, .ref ro, .ref od, .int (nI so)]))] := hD
    refine zz_eqb (tgt := 21) hx hb dX5_base_16 (by decide) (fun c16 => ?_) (fun c16 => ?_)
    · skip
      refine lv_aload_n hx hb dX5_base_21 rfl (lv_at hl 0 rfl) ?_
      refine va_get (D := D) (ci := 5) (v := .ref G) (C := RX5) (T := TX5) (N := 7) hx hb hts (fun w h => List.mem_cons_of_mem _ (inUX5 w h)) hown hK hP 0 rfl rfl 0 (by decide) (hts _ (List.mem_cons_of_mem _ mw_154)) (fun _ h9 => h9) rfl dX5_base_22 ?_
      refine lv_iload_n hx hb dX5_base_25 rfl (lv_at hl 1 rfl) ?_
      refine zCv (is := [1, 2]) (wf := (fun (uu : Unit) => ([(G, .inr (0, [.ref ga, .int (nI (n + 1))])), (ga, .inl (cI, 96, .inl (fun jj => nI (zup g n x jj))))] : va_W))) (va_runV (As := [.int (nI x)]) (rest := []) ⟨hx, hb, hml, hown, hts⟩ (k_append l D cI cC  G ga n 96 x g (by omega) (by omega) H.size) (cwV 1 hts (zgood mw_184 mw_185 mw_186 mw_27 mw_187) rfl rfl rfl (by decide +kernel) ⟨Nat.le_of_ble_eq_true rfl, Nat.le_of_ble_eq_true rfl⟩) ⟨zBlind zE0_ok, va_recv hK hP (ci := 0) (q0 := 1) rfl rfl, zAt (av := [.ref G, .int (nI x)]) zE0_ok hP hD hK hS hA trivial [1, 2] rfl (by decide)⟩ rfl rfl hl.1 rfl (lv_room (Nat.le_of_ble_eq_true rfl)) dX5_base_26 ⟨Nat.zero_le _, Nat.zero_le _⟩) hP hD hS hA rfl (fun _ => rfl) (fun u26 H locs w26 hP hD hS => ?_)
      have hP : va_P D vwCl [(x0, .inr (5, [.ref G, .ref S, .ref rd, .ref td, .ref la, .ref sp, .int (nI dn)])), (G, .inr (0, [.ref ga, .int (nI (n + 1))])), (ga, .inl (cI, 96, .inl (fun jj => nI (zup g n x jj)))), (S, .inr (4, [.ref G, .ref ro, .ref od, .int (nI so)]))] H := hP
      have hD : va_D A [(x0, .inr (5, [.ref G, .ref S, .ref rd, .ref td, .ref la, .ref sp, .int (nI dn)])), (G, .inr (0, [.ref ga, .int (nI (n + 1))])), (ga, .inl (cI, 96, .inl (fun jj => nI (zup g n x jj)))), (S, .inr (4, [.ref G, .ref ro, .ref od, .int (nI so)]))] := hD
      refine lv_aload_n hx hb dX5_base_29 rfl (lv_at hl 0 rfl) ?_
      refine va_get (D := D) (ci := 5) (v := .ref S) (C := RX5) (T := TX5) (N := 7) hx hb hts (fun w h => List.mem_cons_of_mem _ (inUX5 w h)) hown hK hP 0 rfl rfl 1 (by decide) (hts _ (List.mem_cons_of_mem _ mw_155)) (fun _ h9 => h9) rfl dX5_base_30 ?_
      refine zCv (is := [3]) (wf := (fun (uu : Unit) => ([(S, .inr (4, [.ref G, .ref ro, .ref od, .int (nI 0)]))] : va_W))) (va_runV (As := []) (rest := []) ⟨hx, hb, hml, hown, hts⟩ (k_forget l D cI cC  S G ro od so  H.size) (cwV 0 hts (zgood mw_189 mw_190 mw_191 mw_28 mw_192) rfl rfl rfl (by decide +kernel) ⟨Nat.le_of_ble_eq_true rfl, Nat.le_of_ble_eq_true rfl⟩) ⟨zBlind zE0_ok, va_recv hK hP (ci := 4) (q0 := 3) rfl rfl, zAt (av := [.ref S]) zE0_ok hP hD hK hS hA trivial [3] rfl (by decide)⟩ rfl rfl hl.1 rfl (lv_room (Nat.le_of_ble_eq_true rfl)) dX5_base_33 ⟨Nat.zero_le _, Nat.zero_le _⟩) hP hD hS hA rfl (fun _ => rfl) (fun u33 H locs w33 hP hD hS => ?_)
      have hP : va_P D vwCl [(x0, .inr (5, [.ref G, .ref S, .ref rd, .ref td, .ref la, .ref sp, .int (nI dn)])), (G, .inr (0, [.ref ga, .int (nI (n + 1))])), (ga, .inl (cI, 96, .inl (fun jj => nI (zup g n x jj)))), (S, .inr (4, [.ref G, .ref ro, .ref od, .int (nI 0)]))] H := hP
      have hD : va_D A [(x0, .inr (5, [.ref G, .ref S, .ref rd, .ref td, .ref la, .ref sp, .int (nI dn)])), (G, .inr (0, [.ref ga, .int (nI (n + 1))])), (ga, .inl (cI, 96, .inl (fun jj => nI (zup g n x jj)))), (S, .inr (4, [.ref G, .ref ro, .ref od, .int (nI 0)]))] := hD
      refine lv_iconst (v := nI 1) hx hb dX5_base_36 (by decide) ?_
      exact zIret hC hS () ⟨rfl, trivial⟩ hP (by decide) dX5_base_37
    · skip
      exact absurd c16 (by omega)
set_option maxHeartbeats 4000000 in
set_option maxRecDepth 100000 in
theorem f_base0 (l : Launch) (D : va_G) (cI cC : ClassId)  (x0 G S rd td la sp dn : Nat) (ro od so ga n : Nat) (b : Int32) (g : Nat → Nat) (hn : n ≤ 96) (hbad : (b < 0 ∨ nI 4 < b) ∨ n = 96) (sz : Nat) : Met l yX5_base wsX5_base ({ frames := 1, cells := 0, slots := 0, locals := 20 } : Room) (zPre zEn D vwCl [(cI, .int), (cC, .char)] [.ref x0, .int b] [(x0, .inr (5, [.ref G, .ref S, .ref rd, .ref td, .ref la, .ref sp, .int (nI dn)])), (G, .inr (0, [.ref ga, .int (nI n)])), (ga, .inl (cI, 96, .inl (fun jj => nI (g jj))))] sz) (va_Qi (fun (rv : Int32) (uu : Unit) => rv = nI 0 ∧ True) (fun (uu : Unit) t9 => va_P D vwCl ([(x0, .inr (5, [.ref G, .ref S, .ref rd, .ref td, .ref la, .ref sp, .int (nI dn)])), (G, .inr (0, [.ref ga, .int (nI n)])), (ga, .inl (cI, 96, .inl (fun jj => nI (g jj))))]) t9.heap) (va_A [(x0, .inr (5, [.ref G, .ref S, .ref rd, .ref td, .ref la, .ref sp, .int (nI dn)])), (G, .inr (0, [.ref ga, .int (nI n)])), (ga, .inl (cI, 96, .inl (fun jj => nI (g jj))))] sz)) 0 0 (va_A [(x0, .inr (5, [.ref G, .ref S, .ref rd, .ref td, .ref la, .ref sp, .int (nI dn)])), (G, .inr (0, [.ref ga, .int (nI n)])), (ga, .inl (cI, 96, .inl (fun jj => nI (g jj))))] sz) := by
  refine zMet (cc := cX5_base) (maxL := 2) (ret := (some .boolean)) (Qc := fun A => (va_Qi (fun (rv : Int32) (uu : Unit) => rv = nI 0 ∧ True) (fun (uu : Unit) t9 => va_P D vwCl ([(x0, .inr (5, [.ref G, .ref S, .ref rd, .ref td, .ref la, .ref sp, .int (nI dn)])), (G, .inr (0, [.ref ga, .int (nI n)])), (ga, .inl (cI, 96, .inl (fun jj => nI (g jj))))]) t9.heap) A)) (by decide) rfl (Nat.le_of_ble_eq_true rfl) ?_
  intro pr en s0 mi bl me co A hC hA hK hE H locs hP hD hS ls hl
  obtain ⟨hx, hb, hr, hml, hown, hts, hlocks, hin⟩ := id hC
  have hl : lv_has ls 2 [(0, .ref x0), (1, .int b)] := hl
  refine lv_iload_n hx hb dX5_base_0 rfl (lv_at hl 1 rfl) ?_
  refine lv_if_lt (tgt := 19) hx hb dX5_base_1 (by decide) (fun c1 => ?_) (fun c1 => ?_)
  · skip
    refine lv_iconst (v := nI 0) hx hb dX5_base_19 (by decide) ?_
    exact zIret hC hS () ⟨rfl, trivial⟩ hP (by decide) dX5_base_20
  · skip
    refine lv_iload_n hx hb dX5_base_4 rfl (lv_at hl 1 rfl) ?_
    refine lv_iconst (v := nI 4) hx hb dX5_base_5 (by decide) ?_
    refine lv_icmp_gt (tgt := 19) hx hb dX5_base_6 (by decide) (fun c6 => ?_) (fun c6 => ?_)
    · skip
      refine lv_iconst (v := nI 0) hx hb dX5_base_19 (by decide) ?_
      exact zIret hC hS () ⟨rfl, trivial⟩ hP (by decide) dX5_base_20
    · skip
      refine lv_aload_n hx hb dX5_base_9 rfl (lv_at hl 0 rfl) ?_
      refine va_get (D := D) (ci := 5) (v := .ref G) (C := RX5) (T := TX5) (N := 7) hx hb hts (fun w h => List.mem_cons_of_mem _ (inUX5 w h)) hown hK hP 0 rfl rfl 0 (by decide) (hts _ (List.mem_cons_of_mem _ mw_154)) (fun _ h9 => h9) rfl dX5_base_10 ?_
      refine zCi (is := [1, 2]) (wf := (fun (uu : Unit) => ([(G, .inr (0, [.ref ga, .int (nI n)])), (ga, .inl (cI, 96, .inl (fun jj => nI (g jj))))] : va_W))) (va_runV (As := []) (rest := []) ⟨hx, hb, hml, hown, hts⟩ (k_isFull l D cI cC  G ga n 96 g (by omega) (by omega) H.size) (cwV 0 hts (zgood mw_180 mw_181 mw_182 mw_27 mw_183) rfl rfl rfl (by decide +kernel) ⟨Nat.le_of_ble_eq_true rfl, Nat.le_of_ble_eq_true rfl⟩) ⟨zBlind zE0_ok, va_recv hK hP (ci := 0) (q0 := 1) rfl rfl, zAt (av := [.ref G]) zE0_ok hP hD hK hS hA trivial [1, 2] rfl (by decide)⟩ rfl rfl hl.1 rfl (lv_room (Nat.le_of_ble_eq_true rfl)) dX5_base_13 ⟨Nat.zero_le _, Nat.zero_le _⟩) hP hD hS hA rfl (fun _ => rfl) (fun r13 u13 H locs w13 hP hD hS => ?_)
      obtain ⟨rfl, w13⟩ := w13
      have hP : va_P D vwCl [(x0, .inr (5, [.ref G, .ref S, .ref rd, .ref td, .ref la, .ref sp, .int (nI dn)])), (G, .inr (0, [.ref ga, .int (nI n)])), (ga, .inl (cI, 96, .inl (fun jj => nI (g jj))))] H := hP
      have hD : va_D A [(x0, .inr (5, [.ref G, .ref S, .ref rd, .ref td, .ref la, .ref sp, .int (nI dn)])), (G, .inr (0, [.ref ga, .int (nI n)])), (ga, .inl (cI, 96, .inl (fun jj => nI (g jj))))] := hD
      refine zz_eqb (tgt := 21) hx hb dX5_base_16 (by decide) (fun c16 => ?_) (fun c16 => ?_)
      · skip
        exact absurd hbad (fun q => by rcases q with (q | q) | q; exact c1 q; exact c6 q; exact c16 (by omega))
      · skip
        refine lv_iconst (v := nI 0) hx hb dX5_base_19 (by decide) ?_
        exact zIret hC hS () ⟨rfl, trivial⟩ hP (by decide) dX5_base_20
set_option maxHeartbeats 4000000 in
set_option maxRecDepth 100000 in
theorem f_clear (l : Launch) (D : va_G) (cI cC : ClassId)  (x0 G S rd td la sp dn : Nat) (ro od so ga n : Nat)  (sz : Nat) : Met l yX5_clear wsX5_clear ({ frames := 1, cells := 0, slots := 0, locals := 20 } : Room) (zPre zEn D vwCl [(cI, .int), (cC, .char)] [.ref x0] [(x0, .inr (5, [.ref G, .ref S, .ref rd, .ref td, .ref la, .ref sp, .int (nI dn)])), (G, .inr (0, [.ref ga, .int (nI n)])), (S, .inr (4, [.ref G, .ref ro, .ref od, .int (nI so)]))] sz) (va_Qv (fun (uu : Unit) => True) (fun (uu : Unit) t9 => va_P D vwCl ([(x0, .inr (5, [.ref G, .ref S, .ref rd, .ref td, .ref la, .ref sp, .int (nI dn)])), (G, .inr (0, [.ref ga, .int (nI 0)])), (S, .inr (4, [.ref G, .ref ro, .ref od, .int (nI 0)]))]) t9.heap) (va_A [(x0, .inr (5, [.ref G, .ref S, .ref rd, .ref td, .ref la, .ref sp, .int (nI dn)])), (G, .inr (0, [.ref ga, .int (nI n)])), (S, .inr (4, [.ref G, .ref ro, .ref od, .int (nI so)]))] sz)) 0 0 (va_A [(x0, .inr (5, [.ref G, .ref S, .ref rd, .ref td, .ref la, .ref sp, .int (nI dn)])), (G, .inr (0, [.ref ga, .int (nI n)])), (S, .inr (4, [.ref G, .ref ro, .ref od, .int (nI so)]))] sz) := by
  refine zMet (cc := cX5_clear) (maxL := 1) (ret := none) (Qc := fun A => (va_Qv (fun (uu : Unit) => True) (fun (uu : Unit) t9 => va_P D vwCl ([(x0, .inr (5, [.ref G, .ref S, .ref rd, .ref td, .ref la, .ref sp, .int (nI dn)])), (G, .inr (0, [.ref ga, .int (nI 0)])), (S, .inr (4, [.ref G, .ref ro, .ref od, .int (nI 0)]))]) t9.heap) A)) (by decide) rfl (Nat.le_of_ble_eq_true rfl) ?_
  intro pr en s0 mi bl me co A hC hA hK hE H locs hP hD hS ls hl
  obtain ⟨hx, hb, hr, hml, hown, hts, hlocks, hin⟩ := id hC
  have hl : lv_has ls 1 [(0, .ref x0)] := hl
  refine lv_aload_n hx hb dX5_clear_0 rfl (lv_at hl 0 rfl) ?_
  refine va_get (D := D) (ci := 5) (v := .ref G) (C := RX5) (T := TX5) (N := 7) hx hb hts (fun w h => List.mem_cons_of_mem _ (inUX5 w h)) hown hK hP 0 rfl rfl 0 (by decide) (hts _ (List.mem_cons_of_mem _ mw_154)) (fun _ h9 => h9) rfl dX5_clear_1 ?_
  refine zCv (is := [1]) (wf := (fun (uu : Unit) => ([(G, .inr (0, [.ref ga, .int (nI 0)]))] : va_W))) (va_runV (As := []) (rest := []) ⟨hx, hb, hml, hown, hts⟩ (k_empty l D cI cC  G ga n  H.size) (cwV 0 hts (zgood mw_197 mw_198 mw_199 mw_27 mw_200) rfl rfl rfl (by decide +kernel) ⟨Nat.le_of_ble_eq_true rfl, Nat.le_of_ble_eq_true rfl⟩) ⟨zBlind zE0_ok, va_recv hK hP (ci := 0) (q0 := 1) rfl rfl, zAt (av := [.ref G]) zE0_ok hP hD hK hS hA trivial [1] rfl (by decide)⟩ rfl rfl hl.1 rfl (lv_room (Nat.le_of_ble_eq_true rfl)) dX5_clear_4 ⟨Nat.zero_le _, Nat.zero_le _⟩) hP hD hS hA rfl (fun _ => rfl) (fun u4 H locs w4 hP hD hS => ?_)
  have hP : va_P D vwCl [(x0, .inr (5, [.ref G, .ref S, .ref rd, .ref td, .ref la, .ref sp, .int (nI dn)])), (G, .inr (0, [.ref ga, .int (nI 0)])), (S, .inr (4, [.ref G, .ref ro, .ref od, .int (nI so)]))] H := hP
  have hD : va_D A [(x0, .inr (5, [.ref G, .ref S, .ref rd, .ref td, .ref la, .ref sp, .int (nI dn)])), (G, .inr (0, [.ref ga, .int (nI 0)])), (S, .inr (4, [.ref G, .ref ro, .ref od, .int (nI so)]))] := hD
  refine lv_aload_n hx hb dX5_clear_7 rfl (lv_at hl 0 rfl) ?_
  refine va_get (D := D) (ci := 5) (v := .ref S) (C := RX5) (T := TX5) (N := 7) hx hb hts (fun w h => List.mem_cons_of_mem _ (inUX5 w h)) hown hK hP 0 rfl rfl 1 (by decide) (hts _ (List.mem_cons_of_mem _ mw_155)) (fun _ h9 => h9) rfl dX5_clear_8 ?_
  refine zCv (is := [2]) (wf := (fun (uu : Unit) => ([(S, .inr (4, [.ref G, .ref ro, .ref od, .int (nI 0)]))] : va_W))) (va_runV (As := []) (rest := []) ⟨hx, hb, hml, hown, hts⟩ (k_forget l D cI cC  S G ro od so  H.size) (cwV 0 hts (zgood mw_189 mw_190 mw_191 mw_28 mw_192) rfl rfl rfl (by decide +kernel) ⟨Nat.le_of_ble_eq_true rfl, Nat.le_of_ble_eq_true rfl⟩) ⟨zBlind zE0_ok, va_recv hK hP (ci := 4) (q0 := 2) rfl rfl, zAt (av := [.ref S]) zE0_ok hP hD hK hS hA trivial [2] rfl (by decide)⟩ rfl rfl hl.1 rfl (lv_room (Nat.le_of_ble_eq_true rfl)) dX5_clear_11 ⟨Nat.zero_le _, Nat.zero_le _⟩) hP hD hS hA rfl (fun _ => rfl) (fun u11 H locs w11 hP hD hS => ?_)
  have hP : va_P D vwCl [(x0, .inr (5, [.ref G, .ref S, .ref rd, .ref td, .ref la, .ref sp, .int (nI dn)])), (G, .inr (0, [.ref ga, .int (nI 0)])), (S, .inr (4, [.ref G, .ref ro, .ref od, .int (nI 0)]))] H := hP
  have hD : va_D A [(x0, .inr (5, [.ref G, .ref S, .ref rd, .ref td, .ref la, .ref sp, .int (nI dn)])), (G, .inr (0, [.ref ga, .int (nI 0)])), (S, .inr (4, [.ref G, .ref ro, .ref od, .int (nI 0)]))] := hD
  exact zVret hC hS () trivial hP dX5_clear_14
set_option maxHeartbeats 4000000 in
set_option maxRecDepth 100000 in
theorem f_read (l : Launch) (D : va_G) (cI cC : ClassId)  (x0 G S rd td la sp dn : Nat) (ra w : Nat) (x : Nat) (r : Nat → Nat) (hw : w < 24) (hx3 : x ≤ 3) (sz : Nat) : Met l yX5_read wsX5_read ({ frames := 2, cells := 0, slots := 0, locals := 41 } : Room) (zPre zEn D vwCl [(cI, .int), (cC, .char)] [.ref x0, .int (nI x)] [(x0, .inr (5, [.ref G, .ref S, .ref rd, .ref td, .ref la, .ref sp, .int (nI dn)])), (rd, .inr (0, [.ref ra, .int (nI w)])), (ra, .inl (cI, 24, .inl (fun jj => nI (r jj))))] sz) (va_Qi (fun (rv : Int32) (uu : Unit) => rv = nI 1 ∧ True) (fun (uu : Unit) t9 => va_P D vwCl ([(x0, .inr (5, [.ref G, .ref S, .ref rd, .ref td, .ref la, .ref sp, .int (nI dn)])), (rd, .inr (0, [.ref ra, .int (nI (w + 1))])), (ra, .inl (cI, 24, .inl (fun jj => nI (zup r w x jj))))]) t9.heap) (va_A [(x0, .inr (5, [.ref G, .ref S, .ref rd, .ref td, .ref la, .ref sp, .int (nI dn)])), (rd, .inr (0, [.ref ra, .int (nI w)])), (ra, .inl (cI, 24, .inl (fun jj => nI (r jj))))] sz)) 0 0 (va_A [(x0, .inr (5, [.ref G, .ref S, .ref rd, .ref td, .ref la, .ref sp, .int (nI dn)])), (rd, .inr (0, [.ref ra, .int (nI w)])), (ra, .inl (cI, 24, .inl (fun jj => nI (r jj))))] sz) := by
  refine zMet (cc := cX5_read) (maxL := 2) (ret := (some .boolean)) (Qc := fun A => (va_Qi (fun (rv : Int32) (uu : Unit) => rv = nI 1 ∧ True) (fun (uu : Unit) t9 => va_P D vwCl ([(x0, .inr (5, [.ref G, .ref S, .ref rd, .ref td, .ref la, .ref sp, .int (nI dn)])), (rd, .inr (0, [.ref ra, .int (nI (w + 1))])), (ra, .inl (cI, 24, .inl (fun jj => nI (zup r w x jj))))]) t9.heap) A)) (by decide) rfl (Nat.le_of_ble_eq_true rfl) ?_
  intro pr en s0 mi bl me co A hC hA hK hE H locs hP hD hS ls hl
  obtain ⟨hx, hb, hr, hml, hown, hts, hlocks, hin⟩ := id hC
  have hl : lv_has ls 2 [(0, .ref x0), (1, .int (nI x))] := hl
  refine lv_iload_n hx hb dX5_read_0 rfl (lv_at hl 1 rfl) ?_
  refine zz_lt0 (tgt := 19) hx hb dX5_read_1 (by decide) (by omega) ?_
  refine lv_iload_n hx hb dX5_read_4 rfl (lv_at hl 1 rfl) ?_
  refine lv_iconst (v := nI 3) hx hb dX5_read_5 (by decide) ?_
  refine zz_gt (tgt := 19) hx hb dX5_read_6 (by decide) (by omega) (by omega) (fun c6 => ?_) (fun c6 => ?_)
  · skip
    exact absurd c6 (by omega)
  · skip
    refine lv_aload_n hx hb dX5_read_9 rfl (lv_at hl 0 rfl) ?_
    refine va_get (D := D) (ci := 5) (v := .ref rd) (C := RX5) (T := TX5) (N := 7) hx hb hts (fun w h => List.mem_cons_of_mem _ (inUX5 w h)) hown hK hP 0 rfl rfl 2 (by decide) (hts _ (List.mem_cons_of_mem _ mw_156)) (fun _ h9 => h9) rfl dX5_read_10 ?_
    refine zCi (is := [1, 2]) (wf := (fun (uu : Unit) => ([(rd, .inr (0, [.ref ra, .int (nI w)])), (ra, .inl (cI, 24, .inl (fun jj => nI (r jj))))] : va_W))) (va_runV (As := []) (rest := []) ⟨hx, hb, hml, hown, hts⟩ (k_isFull l D cI cC  rd ra w 24 r (by omega) (by omega) H.size) (cwV 0 hts (zgood mw_180 mw_181 mw_182 mw_27 mw_183) rfl rfl rfl (by decide +kernel) ⟨Nat.le_of_ble_eq_true rfl, Nat.le_of_ble_eq_true rfl⟩) ⟨zBlind zE0_ok, va_recv hK hP (ci := 0) (q0 := 1) rfl rfl, zAt (av := [.ref rd]) zE0_ok hP hD hK hS hA trivial [1, 2] rfl (by decide)⟩ rfl rfl hl.1 rfl (lv_room (Nat.le_of_ble_eq_true rfl)) dX5_read_13 ⟨Nat.zero_le _, Nat.zero_le _⟩) hP hD hS hA rfl (fun _ => rfl) (fun r13 u13 H locs w13 hP hD hS => ?_)
    obtain ⟨rfl, w13⟩ := w13
    have hP : va_P D vwCl [(x0, .inr (5, [.ref G, .ref S, .ref rd, .ref td, .ref la, .ref sp, .int (nI dn)])), (rd, .inr (0, [.ref ra, .int (nI w)])), (ra, .inl (cI, 24, .inl (fun jj => nI (r jj))))] H := hP
    have hD : va_D A [(x0, .inr (5, [.ref G, .ref S, .ref rd, .ref td, .ref la, .ref sp, .int (nI dn)])), (rd, .inr (0, [.ref ra, .int (nI w)])), (ra, .inl (cI, 24, .inl (fun jj => nI (r jj))))] := hD
    refine zz_eqb (tgt := 21) hx hb dX5_read_16 (by decide) (fun c16 => ?_) (fun c16 => ?_)
    · skip
      refine lv_aload_n hx hb dX5_read_21 rfl (lv_at hl 0 rfl) ?_
      refine va_get (D := D) (ci := 5) (v := .ref rd) (C := RX5) (T := TX5) (N := 7) hx hb hts (fun w h => List.mem_cons_of_mem _ (inUX5 w h)) hown hK hP 0 rfl rfl 2 (by decide) (hts _ (List.mem_cons_of_mem _ mw_156)) (fun _ h9 => h9) rfl dX5_read_22 ?_
      refine lv_iload_n hx hb dX5_read_25 rfl (lv_at hl 1 rfl) ?_
      refine zCv (is := [1, 2]) (wf := (fun (uu : Unit) => ([(rd, .inr (0, [.ref ra, .int (nI (w + 1))])), (ra, .inl (cI, 24, .inl (fun jj => nI (zup r w x jj))))] : va_W))) (va_runV (As := [.int (nI x)]) (rest := []) ⟨hx, hb, hml, hown, hts⟩ (k_append l D cI cC  rd ra w 24 x r (by omega) (by omega) H.size) (cwV 1 hts (zgood mw_184 mw_185 mw_186 mw_27 mw_187) rfl rfl rfl (by decide +kernel) ⟨Nat.le_of_ble_eq_true rfl, Nat.le_of_ble_eq_true rfl⟩) ⟨zBlind zE0_ok, va_recv hK hP (ci := 0) (q0 := 1) rfl rfl, zAt (av := [.ref rd, .int (nI x)]) zE0_ok hP hD hK hS hA trivial [1, 2] rfl (by decide)⟩ rfl rfl hl.1 rfl (lv_room (Nat.le_of_ble_eq_true rfl)) dX5_read_26 ⟨Nat.zero_le _, Nat.zero_le _⟩) hP hD hS hA rfl (fun _ => rfl) (fun u26 H locs w26 hP hD hS => ?_)
      have hP : va_P D vwCl [(x0, .inr (5, [.ref G, .ref S, .ref rd, .ref td, .ref la, .ref sp, .int (nI dn)])), (rd, .inr (0, [.ref ra, .int (nI (w + 1))])), (ra, .inl (cI, 24, .inl (fun jj => nI (zup r w x jj))))] H := hP
      have hD : va_D A [(x0, .inr (5, [.ref G, .ref S, .ref rd, .ref td, .ref la, .ref sp, .int (nI dn)])), (rd, .inr (0, [.ref ra, .int (nI (w + 1))])), (ra, .inl (cI, 24, .inl (fun jj => nI (zup r w x jj))))] := hD
      refine lv_iconst (v := nI 1) hx hb dX5_read_29 (by decide) ?_
      exact zIret hC hS () ⟨rfl, trivial⟩ hP (by decide) dX5_read_30
    · skip
      exact absurd c16 (by omega)
set_option maxHeartbeats 4000000 in
set_option maxRecDepth 100000 in
theorem f_read0 (l : Launch) (D : va_G) (cI cC : ClassId)  (x0 G S rd td la sp dn : Nat) (ra w : Nat) (b : Int32) (r : Nat → Nat) (hw : w ≤ 24) (hbad : (b < 0 ∨ nI 3 < b) ∨ w = 24) (sz : Nat) : Met l yX5_read wsX5_read ({ frames := 1, cells := 0, slots := 0, locals := 20 } : Room) (zPre zEn D vwCl [(cI, .int), (cC, .char)] [.ref x0, .int b] [(x0, .inr (5, [.ref G, .ref S, .ref rd, .ref td, .ref la, .ref sp, .int (nI dn)])), (rd, .inr (0, [.ref ra, .int (nI w)])), (ra, .inl (cI, 24, .inl (fun jj => nI (r jj))))] sz) (va_Qi (fun (rv : Int32) (uu : Unit) => rv = nI 0 ∧ True) (fun (uu : Unit) t9 => va_P D vwCl ([(x0, .inr (5, [.ref G, .ref S, .ref rd, .ref td, .ref la, .ref sp, .int (nI dn)])), (rd, .inr (0, [.ref ra, .int (nI w)])), (ra, .inl (cI, 24, .inl (fun jj => nI (r jj))))]) t9.heap) (va_A [(x0, .inr (5, [.ref G, .ref S, .ref rd, .ref td, .ref la, .ref sp, .int (nI dn)])), (rd, .inr (0, [.ref ra, .int (nI w)])), (ra, .inl (cI, 24, .inl (fun jj => nI (r jj))))] sz)) 0 0 (va_A [(x0, .inr (5, [.ref G, .ref S, .ref rd, .ref td, .ref la, .ref sp, .int (nI dn)])), (rd, .inr (0, [.ref ra, .int (nI w)])), (ra, .inl (cI, 24, .inl (fun jj => nI (r jj))))] sz) := by
  refine zMet (cc := cX5_read) (maxL := 2) (ret := (some .boolean)) (Qc := fun A => (va_Qi (fun (rv : Int32) (uu : Unit) => rv = nI 0 ∧ True) (fun (uu : Unit) t9 => va_P D vwCl ([(x0, .inr (5, [.ref G, .ref S, .ref rd, .ref td, .ref la, .ref sp, .int (nI dn)])), (rd, .inr (0, [.ref ra, .int (nI w)])), (ra, .inl (cI, 24, .inl (fun jj => nI (r jj))))]) t9.heap) A)) (by decide) rfl (Nat.le_of_ble_eq_true rfl) ?_
  intro pr en s0 mi bl me co A hC hA hK hE H locs hP hD hS ls hl
  obtain ⟨hx, hb, hr, hml, hown, hts, hlocks, hin⟩ := id hC
  have hl : lv_has ls 2 [(0, .ref x0), (1, .int b)] := hl
  refine lv_iload_n hx hb dX5_read_0 rfl (lv_at hl 1 rfl) ?_
  refine lv_if_lt (tgt := 19) hx hb dX5_read_1 (by decide) (fun c1 => ?_) (fun c1 => ?_)
  · skip
    refine lv_iconst (v := nI 0) hx hb dX5_read_19 (by decide) ?_
    exact zIret hC hS () ⟨rfl, trivial⟩ hP (by decide) dX5_read_20
  · skip
    refine lv_iload_n hx hb dX5_read_4 rfl (lv_at hl 1 rfl) ?_
    refine lv_iconst (v := nI 3) hx hb dX5_read_5 (by decide) ?_
    refine lv_icmp_gt (tgt := 19) hx hb dX5_read_6 (by decide) (fun c6 => ?_) (fun c6 => ?_)
    · skip
      refine lv_iconst (v := nI 0) hx hb dX5_read_19 (by decide) ?_
      exact zIret hC hS () ⟨rfl, trivial⟩ hP (by decide) dX5_read_20
    · skip
      refine lv_aload_n hx hb dX5_read_9 rfl (lv_at hl 0 rfl) ?_
      refine va_get (D := D) (ci := 5) (v := .ref rd) (C := RX5) (T := TX5) (N := 7) hx hb hts (fun w h => List.mem_cons_of_mem _ (inUX5 w h)) hown hK hP 0 rfl rfl 2 (by decide) (hts _ (List.mem_cons_of_mem _ mw_156)) (fun _ h9 => h9) rfl dX5_read_10 ?_
      refine zCi (is := [1, 2]) (wf := (fun (uu : Unit) => ([(rd, .inr (0, [.ref ra, .int (nI w)])), (ra, .inl (cI, 24, .inl (fun jj => nI (r jj))))] : va_W))) (va_runV (As := []) (rest := []) ⟨hx, hb, hml, hown, hts⟩ (k_isFull l D cI cC  rd ra w 24 r (by omega) (by omega) H.size) (cwV 0 hts (zgood mw_180 mw_181 mw_182 mw_27 mw_183) rfl rfl rfl (by decide +kernel) ⟨Nat.le_of_ble_eq_true rfl, Nat.le_of_ble_eq_true rfl⟩) ⟨zBlind zE0_ok, va_recv hK hP (ci := 0) (q0 := 1) rfl rfl, zAt (av := [.ref rd]) zE0_ok hP hD hK hS hA trivial [1, 2] rfl (by decide)⟩ rfl rfl hl.1 rfl (lv_room (Nat.le_of_ble_eq_true rfl)) dX5_read_13 ⟨Nat.zero_le _, Nat.zero_le _⟩) hP hD hS hA rfl (fun _ => rfl) (fun r13 u13 H locs w13 hP hD hS => ?_)
      obtain ⟨rfl, w13⟩ := w13
      have hP : va_P D vwCl [(x0, .inr (5, [.ref G, .ref S, .ref rd, .ref td, .ref la, .ref sp, .int (nI dn)])), (rd, .inr (0, [.ref ra, .int (nI w)])), (ra, .inl (cI, 24, .inl (fun jj => nI (r jj))))] H := hP
      have hD : va_D A [(x0, .inr (5, [.ref G, .ref S, .ref rd, .ref td, .ref la, .ref sp, .int (nI dn)])), (rd, .inr (0, [.ref ra, .int (nI w)])), (ra, .inl (cI, 24, .inl (fun jj => nI (r jj))))] := hD
      refine zz_eqb (tgt := 21) hx hb dX5_read_16 (by decide) (fun c16 => ?_) (fun c16 => ?_)
      · skip
        exact absurd hbad (fun q => by rcases q with (q | q) | q; exact c1 q; exact c6 q; exact c16 (by omega))
      · skip
        refine lv_iconst (v := nI 0) hx hb dX5_read_19 (by decide) ?_
        exact zIret hC hS () ⟨rfl, trivial⟩ hP (by decide) dX5_read_20
set_option maxHeartbeats 4000000 in
set_option maxRecDepth 100000 in
theorem f_wipe (l : Launch) (D : va_G) (cI cC : ClassId)  (x0 G S rd td la sp dn : Nat) (ra w : Nat)  (sz : Nat) : Met l yX5_wipe wsX5_wipe ({ frames := 1, cells := 0, slots := 0, locals := 20 } : Room) (zPre zEn D vwCl [(cI, .int), (cC, .char)] [.ref x0] [(x0, .inr (5, [.ref G, .ref S, .ref rd, .ref td, .ref la, .ref sp, .int (nI dn)])), (rd, .inr (0, [.ref ra, .int (nI w)]))] sz) (va_Qv (fun (uu : Unit) => True) (fun (uu : Unit) t9 => va_P D vwCl ([(x0, .inr (5, [.ref G, .ref S, .ref rd, .ref td, .ref la, .ref sp, .int (nI dn)])), (rd, .inr (0, [.ref ra, .int (nI 0)]))]) t9.heap) (va_A [(x0, .inr (5, [.ref G, .ref S, .ref rd, .ref td, .ref la, .ref sp, .int (nI dn)])), (rd, .inr (0, [.ref ra, .int (nI w)]))] sz)) 0 0 (va_A [(x0, .inr (5, [.ref G, .ref S, .ref rd, .ref td, .ref la, .ref sp, .int (nI dn)])), (rd, .inr (0, [.ref ra, .int (nI w)]))] sz) := by
  refine zMet (cc := cX5_wipe) (maxL := 1) (ret := none) (Qc := fun A => (va_Qv (fun (uu : Unit) => True) (fun (uu : Unit) t9 => va_P D vwCl ([(x0, .inr (5, [.ref G, .ref S, .ref rd, .ref td, .ref la, .ref sp, .int (nI dn)])), (rd, .inr (0, [.ref ra, .int (nI 0)]))]) t9.heap) A)) (by decide) rfl (Nat.le_of_ble_eq_true rfl) ?_
  intro pr en s0 mi bl me co A hC hA hK hE H locs hP hD hS ls hl
  obtain ⟨hx, hb, hr, hml, hown, hts, hlocks, hin⟩ := id hC
  have hl : lv_has ls 1 [(0, .ref x0)] := hl
  refine lv_aload_n hx hb dX5_wipe_0 rfl (lv_at hl 0 rfl) ?_
  refine va_get (D := D) (ci := 5) (v := .ref rd) (C := RX5) (T := TX5) (N := 7) hx hb hts (fun w h => List.mem_cons_of_mem _ (inUX5 w h)) hown hK hP 0 rfl rfl 2 (by decide) (hts _ (List.mem_cons_of_mem _ mw_156)) (fun _ h9 => h9) rfl dX5_wipe_1 ?_
  refine zCv (is := [1]) (wf := (fun (uu : Unit) => ([(rd, .inr (0, [.ref ra, .int (nI 0)]))] : va_W))) (va_runV (As := []) (rest := []) ⟨hx, hb, hml, hown, hts⟩ (k_empty l D cI cC  rd ra w  H.size) (cwV 0 hts (zgood mw_197 mw_198 mw_199 mw_27 mw_200) rfl rfl rfl (by decide +kernel) ⟨Nat.le_of_ble_eq_true rfl, Nat.le_of_ble_eq_true rfl⟩) ⟨zBlind zE0_ok, va_recv hK hP (ci := 0) (q0 := 1) rfl rfl, zAt (av := [.ref rd]) zE0_ok hP hD hK hS hA trivial [1] rfl (by decide)⟩ rfl rfl hl.1 rfl (lv_room (Nat.le_of_ble_eq_true rfl)) dX5_wipe_4 ⟨Nat.zero_le _, Nat.zero_le _⟩) hP hD hS hA rfl (fun _ => rfl) (fun u4 H locs w4 hP hD hS => ?_)
  have hP : va_P D vwCl [(x0, .inr (5, [.ref G, .ref S, .ref rd, .ref td, .ref la, .ref sp, .int (nI dn)])), (rd, .inr (0, [.ref ra, .int (nI 0)]))] H := hP
  have hD : va_D A [(x0, .inr (5, [.ref G, .ref S, .ref rd, .ref td, .ref la, .ref sp, .int (nI dn)])), (rd, .inr (0, [.ref ra, .int (nI 0)]))] := hD
  exact zVret hC hS () trivial hP dX5_wipe_7
set_option maxHeartbeats 4000000 in
set_option maxRecDepth 100000 in
theorem f_turn (l : Launch) (D : va_G) (cI cC : ClassId)  (x0 G S rd td la sp dn : Nat) (ra w : Nat) (ta tw : Nat) (t0 : Nat → Nat) (r : Nat → Nat) (hw : w ≤ 24) (hr3 : ∀ i, i < w → r i ≤ 3) (sz : Nat) : Met l yX5_turn wsX5_turn ({ frames := 3, cells := 0, slots := 0, locals := 63 } : Room) (zPre zEn D vwCl [(cI, .int), (cC, .char)] [.ref x0] [(x0, .inr (5, [.ref G, .ref S, .ref rd, .ref td, .ref la, .ref sp, .int (nI dn)])), (rd, .inr (0, [.ref ra, .int (nI w)])), (ra, .inl (cI, 24, .inl (fun jj => nI (r jj)))), (td, .inr (0, [.ref ta, .int (nI tw)])), (ta, .inl (cI, 24, .inl (fun jj => nI (t0 jj))))] sz) (va_Qv (fun (uu : Nat → Nat) => ∀ i, i < w → uu i = 3 - r (w - 1 - i)) (fun (uu : Nat → Nat) t9 => va_P D vwCl ([(x0, .inr (5, [.ref G, .ref S, .ref td, .ref rd, .ref la, .ref sp, .int (nI dn)])), (rd, .inr (0, [.ref ra, .int (nI w)])), (ra, .inl (cI, 24, .inl (fun jj => nI (r jj)))), (td, .inr (0, [.ref ta, .int (nI w)])), (ta, .inl (cI, 24, .inl (fun jj => nI (uu jj))))]) t9.heap) (va_A [(x0, .inr (5, [.ref G, .ref S, .ref rd, .ref td, .ref la, .ref sp, .int (nI dn)])), (rd, .inr (0, [.ref ra, .int (nI w)])), (ra, .inl (cI, 24, .inl (fun jj => nI (r jj)))), (td, .inr (0, [.ref ta, .int (nI tw)])), (ta, .inl (cI, 24, .inl (fun jj => nI (t0 jj))))] sz)) 0 0 (va_A [(x0, .inr (5, [.ref G, .ref S, .ref rd, .ref td, .ref la, .ref sp, .int (nI dn)])), (rd, .inr (0, [.ref ra, .int (nI w)])), (ra, .inl (cI, 24, .inl (fun jj => nI (r jj)))), (td, .inr (0, [.ref ta, .int (nI tw)])), (ta, .inl (cI, 24, .inl (fun jj => nI (t0 jj))))] sz) := by
  refine zMet (cc := cX5_turn) (maxL := 2) (ret := none) (Qc := fun A => (va_Qv (fun (uu : Nat → Nat) => ∀ i, i < w → uu i = 3 - r (w - 1 - i)) (fun (uu : Nat → Nat) t9 => va_P D vwCl ([(x0, .inr (5, [.ref G, .ref S, .ref td, .ref rd, .ref la, .ref sp, .int (nI dn)])), (rd, .inr (0, [.ref ra, .int (nI w)])), (ra, .inl (cI, 24, .inl (fun jj => nI (r jj)))), (td, .inr (0, [.ref ta, .int (nI w)])), (ta, .inl (cI, 24, .inl (fun jj => nI (uu jj))))]) t9.heap) A)) (by decide) rfl (Nat.le_of_ble_eq_true rfl) ?_
  intro pr en s0 mi bl me co A hC hA hK hE H locs hP hD hS ls hl
  obtain ⟨hx, hb, hr, hml, hown, hts, hlocks, hin⟩ := id hC
  have hl : lv_has ls 2 [(0, .ref x0)] := hl
  refine lv_aload_n hx hb dX5_turn_0 rfl (lv_at hl 0 rfl) ?_
  refine va_get (D := D) (ci := 5) (v := .ref td) (C := RX5) (T := TX5) (N := 7) hx hb hts (fun w h => List.mem_cons_of_mem _ (inUX5 w h)) hown hK hP 0 rfl rfl 3 (by decide) (hts _ (List.mem_cons_of_mem _ mw_157)) (fun _ h9 => h9) rfl dX5_turn_1 ?_
  refine lv_aload_n hx hb dX5_turn_4 rfl (lv_at hl 0 rfl) ?_
  refine va_get (D := D) (ci := 5) (v := .ref rd) (C := RX5) (T := TX5) (N := 7) hx hb hts (fun w h => List.mem_cons_of_mem _ (inUX5 w h)) hown hK hP 0 rfl rfl 2 (by decide) (hts _ (List.mem_cons_of_mem _ mw_156)) (fun _ h9 => h9) rfl dX5_turn_5 ?_
  refine zCv (is := [3, 4, 1, 2]) (wf := (fun (uu : Nat → Nat) => ([(td, .inr (0, [.ref ta, .int (nI w)])), (ta, .inl (cI, 24, .inl (fun jj => nI (uu jj)))), (rd, .inr (0, [.ref ra, .int (nI w)])), (ra, .inl (cI, 24, .inl (fun jj => nI (r jj))))] : va_W))) (va_runV (As := [.ref rd]) (rest := []) ⟨hx, hb, hml, hown, hts⟩ (k_becomeTurned l D cI cC  td ta tw rd ra w t0 r (by omega) hr3 H.size) (cwV 1 hts (zgood mw_213 mw_214 mw_215 mw_27 mw_216) rfl rfl rfl (by decide +kernel) ⟨Nat.le_of_ble_eq_true rfl, Nat.le_of_ble_eq_true rfl⟩) ⟨zBlind zE0_ok, va_recv hK hP (ci := 0) (q0 := 3) rfl rfl, zAt (av := [.ref td, .ref rd]) zE0_ok hP hD hK hS hA trivial [3, 4, 1, 2] rfl (by decide)⟩ rfl rfl hl.1 rfl (lv_room (Nat.le_of_ble_eq_true rfl)) dX5_turn_8 ⟨Nat.zero_le _, Nat.zero_le _⟩) hP hD hS hA rfl (fun _ => rfl) (fun u8 H locs w8 hP hD hS => ?_)
  have hP : va_P D vwCl [(x0, .inr (5, [.ref G, .ref S, .ref rd, .ref td, .ref la, .ref sp, .int (nI dn)])), (rd, .inr (0, [.ref ra, .int (nI w)])), (ra, .inl (cI, 24, .inl (fun jj => nI (r jj)))), (td, .inr (0, [.ref ta, .int (nI w)])), (ta, .inl (cI, 24, .inl (fun jj => nI (u8 jj))))] H := hP
  have hD : va_D A [(x0, .inr (5, [.ref G, .ref S, .ref rd, .ref td, .ref la, .ref sp, .int (nI dn)])), (rd, .inr (0, [.ref ra, .int (nI w)])), (ra, .inl (cI, 24, .inl (fun jj => nI (r jj)))), (td, .inr (0, [.ref ta, .int (nI w)])), (ta, .inl (cI, 24, .inl (fun jj => nI (u8 jj))))] := hD
  refine lv_aload_n hx hb dX5_turn_11 rfl (lv_at hl 0 rfl) ?_
  refine va_get (D := D) (ci := 5) (v := .ref rd) (C := RX5) (T := TX5) (N := 7) hx hb hts (fun w h => List.mem_cons_of_mem _ (inUX5 w h)) hown hK hP 0 rfl rfl 2 (by decide) (hts _ (List.mem_cons_of_mem _ mw_156)) (fun _ h9 => h9) rfl dX5_turn_12 ?_
  refine lv_astore_n (lv' := [(1, .ref rd), (0, .ref x0)]) hx hb dX5_turn_15 rfl hl (by decide) rfl (fun ls hl => ?_)
  refine lv_aload_n hx hb dX5_turn_16 rfl (lv_at hl 1 rfl) ?_
  refine lv_aload_n hx hb dX5_turn_17 rfl (lv_at hl 1 rfl) ?_
  refine va_get (D := D) (ci := 5) (v := .ref td) (C := RX5) (T := TX5) (N := 7) hx hb hts (fun w h => List.mem_cons_of_mem _ (inUX5 w h)) hown hK hP 0 rfl rfl 3 (by decide) (hts _ (List.mem_cons_of_mem _ mw_157)) (fun _ h9 => h9) rfl dX5_turn_18 ?_
  refine va_put (D := D) (ci := 5) (v := .ref td) (ty := (.object "StrandMapper$Bases")) (C := RX5) (T := TX5) (N := 7) hx hb hts (fun w h => List.mem_cons_of_mem _ (inUX5 w h)) tyX5 tyX5_ok nmX5 hown hK hP hD hS 0 rfl rfl 2 (by decide) (hts _ (List.mem_cons_of_mem _ mw_156)) (fun _ h9 => h9) rfl (by decide +kernel) rfl rfl (Nat.le_of_ble_eq_true rfl) dX5_turn_21 (fun H locs hP hD hS => ?_)
  have hP : va_P D vwCl [(x0, .inr (5, [.ref G, .ref S, .ref td, .ref td, .ref la, .ref sp, .int (nI dn)])), (rd, .inr (0, [.ref ra, .int (nI w)])), (ra, .inl (cI, 24, .inl (fun jj => nI (r jj)))), (td, .inr (0, [.ref ta, .int (nI w)])), (ta, .inl (cI, 24, .inl (fun jj => nI (u8 jj))))] H := hP
  have hD : va_D A [(x0, .inr (5, [.ref G, .ref S, .ref td, .ref td, .ref la, .ref sp, .int (nI dn)])), (rd, .inr (0, [.ref ra, .int (nI w)])), (ra, .inl (cI, 24, .inl (fun jj => nI (r jj)))), (td, .inr (0, [.ref ta, .int (nI w)])), (ta, .inl (cI, 24, .inl (fun jj => nI (u8 jj))))] := hD
  refine lv_aload_n hx hb dX5_turn_24 rfl (lv_at hl 1 rfl) ?_
  refine lv_aload_n hx hb dX5_turn_25 rfl (lv_at hl 0 rfl) ?_
  refine va_put (D := D) (ci := 5) (v := .ref rd) (ty := (.object "StrandMapper$Bases")) (C := RX5) (T := TX5) (N := 7) hx hb hts (fun w h => List.mem_cons_of_mem _ (inUX5 w h)) tyX5 tyX5_ok nmX5 hown hK hP hD hS 0 rfl rfl 3 (by decide) (hts _ (List.mem_cons_of_mem _ mw_157)) (fun _ h9 => h9) rfl (by decide +kernel) rfl rfl (Nat.le_of_ble_eq_true rfl) dX5_turn_26 (fun H locs hP hD hS => ?_)
  have hP : va_P D vwCl [(x0, .inr (5, [.ref G, .ref S, .ref td, .ref rd, .ref la, .ref sp, .int (nI dn)])), (rd, .inr (0, [.ref ra, .int (nI w)])), (ra, .inl (cI, 24, .inl (fun jj => nI (r jj)))), (td, .inr (0, [.ref ta, .int (nI w)])), (ta, .inl (cI, 24, .inl (fun jj => nI (u8 jj))))] H := hP
  have hD : va_D A [(x0, .inr (5, [.ref G, .ref S, .ref td, .ref rd, .ref la, .ref sp, .int (nI dn)])), (rd, .inr (0, [.ref ra, .int (nI w)])), (ra, .inl (cI, 24, .inl (fun jj => nI (r jj)))), (td, .inr (0, [.ref ta, .int (nI w)])), (ta, .inl (cI, 24, .inl (fun jj => nI (u8 jj))))] := hD
  exact zVret hC hS u8 w8 hP dX5_turn_29
set_option maxHeartbeats 4000000 in
set_option maxRecDepth 100000 in
theorem f_length (l : Launch) (D : va_G) (cI cC : ClassId)  (x0 G S rd td la sp dn : Nat) (ra w : Nat) (ga n t : Nat) (ht : t ≤ 1) (sz : Nat) : Met l yX5_length wsX5_length ({ frames := 0, cells := 0, slots := 0, locals := 0 } : Room) (zPre zEn D vwCl [(cI, .int), (cC, .char)] [.ref x0, .int (nI t)] [(x0, .inr (5, [.ref G, .ref S, .ref rd, .ref td, .ref la, .ref sp, .int (nI dn)])), (G, .inr (0, [.ref ga, .int (nI n)])), (rd, .inr (0, [.ref ra, .int (nI w)]))] sz) (va_Qi (fun (rv : Int32) (uu : Unit) => rv = nI (if t = 0 then n else w) ∧ True) (fun (uu : Unit) t9 => va_P D vwCl ([(x0, .inr (5, [.ref G, .ref S, .ref rd, .ref td, .ref la, .ref sp, .int (nI dn)])), (G, .inr (0, [.ref ga, .int (nI n)])), (rd, .inr (0, [.ref ra, .int (nI w)]))]) t9.heap) (va_A [(x0, .inr (5, [.ref G, .ref S, .ref rd, .ref td, .ref la, .ref sp, .int (nI dn)])), (G, .inr (0, [.ref ga, .int (nI n)])), (rd, .inr (0, [.ref ra, .int (nI w)]))] sz)) 0 0 (va_A [(x0, .inr (5, [.ref G, .ref S, .ref rd, .ref td, .ref la, .ref sp, .int (nI dn)])), (G, .inr (0, [.ref ga, .int (nI n)])), (rd, .inr (0, [.ref ra, .int (nI w)]))] sz) := by
  refine zMet (cc := cX5_length) (maxL := 2) (ret := (some .int)) (Qc := fun A => (va_Qi (fun (rv : Int32) (uu : Unit) => rv = nI (if t = 0 then n else w) ∧ True) (fun (uu : Unit) t9 => va_P D vwCl ([(x0, .inr (5, [.ref G, .ref S, .ref rd, .ref td, .ref la, .ref sp, .int (nI dn)])), (G, .inr (0, [.ref ga, .int (nI n)])), (rd, .inr (0, [.ref ra, .int (nI w)]))]) t9.heap) A)) (by decide) rfl (Nat.le_of_ble_eq_true rfl) ?_
  intro pr en s0 mi bl me co A hC hA hK hE H locs hP hD hS ls hl
  obtain ⟨hx, hb, hr, hml, hown, hts, hlocks, hin⟩ := id hC
  have hl : lv_has ls 2 [(0, .ref x0), (1, .int (nI t))] := hl
  refine lv_iload_n hx hb dX5_length_0 rfl (lv_at hl 1 rfl) ?_
  refine zz_eq0 (tgt := 14) hx hb dX5_length_1 (by decide) (by omega) (fun c1 => ?_) (fun c1 => ?_)
  · skip
    refine lv_aload_n hx hb dX5_length_14 rfl (lv_at hl 0 rfl) ?_
    refine va_get (D := D) (ci := 5) (v := .ref G) (C := RX5) (T := TX5) (N := 7) hx hb hts (fun w h => List.mem_cons_of_mem _ (inUX5 w h)) hown hK hP 0 rfl rfl 0 (by decide) (hts _ (List.mem_cons_of_mem _ mw_154)) (fun _ h9 => h9) rfl dX5_length_15 ?_
    refine va_getN (D := D) (ci := 0) (v := .int (nI n)) (C := RX0) (T := TX0) (N := 2) hx hb hts (fun w h => List.mem_cons_of_mem _ (inUX0 w h)) hown hK hP 1 rfl rfl 1 (by decide) (va_Nw.use rfl (hE.1 ("StrandMapper", 63, "StrandMapper$Bases", "used", "I", "StrandMapper") (by decide +kernel))) (fun _ h9 => h9) rfl dX5_length_18 ?_
    exact zIret hC hS () ⟨congrArg nI (by first | rw [if_pos c1] | rw [if_neg c1]), trivial⟩ hP (vp_nar_int _) dX5_length_21
  · skip
    refine lv_aload_n hx hb dX5_length_4 rfl (lv_at hl 0 rfl) ?_
    refine va_get (D := D) (ci := 5) (v := .ref rd) (C := RX5) (T := TX5) (N := 7) hx hb hts (fun w h => List.mem_cons_of_mem _ (inUX5 w h)) hown hK hP 0 rfl rfl 2 (by decide) (hts _ (List.mem_cons_of_mem _ mw_156)) (fun _ h9 => h9) rfl dX5_length_5 ?_
    refine va_getN (D := D) (ci := 0) (v := .int (nI w)) (C := RX0) (T := TX0) (N := 2) hx hb hts (fun w h => List.mem_cons_of_mem _ (inUX0 w h)) hown hK hP 2 rfl rfl 1 (by decide) (va_Nw.use rfl (hE.1 ("StrandMapper", 63, "StrandMapper$Bases", "used", "I", "StrandMapper") (by decide +kernel))) (fun _ h9 => h9) rfl dX5_length_8 ?_
    refine lv_goto (tgt := 21) hx hb dX5_length_11 (by decide) ?_
    exact zIret hC hS () ⟨congrArg nI (by first | rw [if_pos c1] | rw [if_neg c1]), trivial⟩ hP (vp_nar_int _) dX5_length_21
set_option maxHeartbeats 4000000 in
set_option maxRecDepth 100000 in
theorem f_row (l : Launch) (D : va_G) (cI cC : ClassId)  (x0 G S rd td la sp dn : Nat) (ro od so ga n : Nat) (i : Int32) (g f0 o0 : Nat → Nat) (hn : n ≤ 96) (hg : ∀ i, g i ≤ 4) (hso : so = 0 ∨ (so = 1 ∧ zord n g o0)) (sz : Nat) : Met l yX5_row wsX5_row ({ frames := 3, cells := 0, slots := 0, locals := 69 } : Room) (zPre zEn D vwCl [(cI, .int), (cC, .char)] [.ref x0, .int i] [(x0, .inr (5, [.ref G, .ref S, .ref rd, .ref td, .ref la, .ref sp, .int (nI dn)])), (S, .inr (4, [.ref G, .ref ro, .ref od, .int (nI so)])), (G, .inr (0, [.ref ga, .int (nI n)])), (ga, .inl (cI, 96, .inl (fun jj => nI (g jj)))), (ro, .inl (cI, 97, .inl (fun jj => nI (f0 jj)))), (od, .inl (cI, 97, .inl (fun jj => nI (o0 jj))))] sz) (va_Qi (fun (rv : Int32) (uu : Nat × (Nat → Nat) × (Nat → Nat)) => (uu.1 = 0 ∨ (uu.1 = 1 ∧ zord n g uu.2.2)) ∧ zrowR n g i rv) (fun (uu : Nat × (Nat → Nat) × (Nat → Nat)) t9 => va_P D vwCl ([(x0, .inr (5, [.ref G, .ref S, .ref rd, .ref td, .ref la, .ref sp, .int (nI dn)])), (S, .inr (4, [.ref G, .ref ro, .ref od, .int (nI (uu.1))])), (G, .inr (0, [.ref ga, .int (nI n)])), (ga, .inl (cI, 96, .inl (fun jj => nI (g jj)))), (ro, .inl (cI, 97, .inl (fun jj => nI (uu.2.1 jj)))), (od, .inl (cI, 97, .inl (fun jj => nI (uu.2.2 jj))))]) t9.heap) (va_A [(x0, .inr (5, [.ref G, .ref S, .ref rd, .ref td, .ref la, .ref sp, .int (nI dn)])), (S, .inr (4, [.ref G, .ref ro, .ref od, .int (nI so)])), (G, .inr (0, [.ref ga, .int (nI n)])), (ga, .inl (cI, 96, .inl (fun jj => nI (g jj)))), (ro, .inl (cI, 97, .inl (fun jj => nI (f0 jj)))), (od, .inl (cI, 97, .inl (fun jj => nI (o0 jj))))] sz)) 0 0 (va_A [(x0, .inr (5, [.ref G, .ref S, .ref rd, .ref td, .ref la, .ref sp, .int (nI dn)])), (S, .inr (4, [.ref G, .ref ro, .ref od, .int (nI so)])), (G, .inr (0, [.ref ga, .int (nI n)])), (ga, .inl (cI, 96, .inl (fun jj => nI (g jj)))), (ro, .inl (cI, 97, .inl (fun jj => nI (f0 jj)))), (od, .inl (cI, 97, .inl (fun jj => nI (o0 jj))))] sz) := by
  refine zMet (cc := cX5_row) (maxL := 2) (ret := (some .int)) (Qc := fun A => (va_Qi (fun (rv : Int32) (uu : Nat × (Nat → Nat) × (Nat → Nat)) => (uu.1 = 0 ∨ (uu.1 = 1 ∧ zord n g uu.2.2)) ∧ zrowR n g i rv) (fun (uu : Nat × (Nat → Nat) × (Nat → Nat)) t9 => va_P D vwCl ([(x0, .inr (5, [.ref G, .ref S, .ref rd, .ref td, .ref la, .ref sp, .int (nI dn)])), (S, .inr (4, [.ref G, .ref ro, .ref od, .int (nI (uu.1))])), (G, .inr (0, [.ref ga, .int (nI n)])), (ga, .inl (cI, 96, .inl (fun jj => nI (g jj)))), (ro, .inl (cI, 97, .inl (fun jj => nI (uu.2.1 jj)))), (od, .inl (cI, 97, .inl (fun jj => nI (uu.2.2 jj))))]) t9.heap) A)) (by decide) rfl (Nat.le_of_ble_eq_true rfl) ?_
  intro pr en s0 mi bl me co A hC hA hK hE H locs hP hD hS ls hl
  obtain ⟨hx, hb, hr, hml, hown, hts, hlocks, hin⟩ := id hC
  have hl : lv_has ls 2 [(0, .ref x0), (1, .int i)] := hl
  refine lv_aload_n hx hb dX5_row_0 rfl (lv_at hl 0 rfl) ?_
  refine va_get (D := D) (ci := 5) (v := .ref S) (C := RX5) (T := TX5) (N := 7) hx hb hts (fun w h => List.mem_cons_of_mem _ (inUX5 w h)) hown hK hP 0 rfl rfl 1 (by decide) (hts _ (List.mem_cons_of_mem _ mw_155)) (fun _ h9 => h9) rfl dX5_row_1 ?_
  refine lv_iload_n hx hb dX5_row_4 rfl (lv_at hl 1 rfl) ?_
  refine zCi (is := [1, 2]) (wf := (fun (uu : Unit) => ([(S, .inr (4, [.ref G, .ref ro, .ref od, .int (nI so)])), (G, .inr (0, [.ref ga, .int (nI n)]))] : va_W))) (va_runV (As := [.int i]) (rest := []) ⟨hx, hb, hml, hown, hts⟩ (k_hasRow l D cI cC  S G ro od so ga n i (by omega) H.size) (cwV 1 hts (zgood mw_227 mw_228 mw_229 mw_28 mw_230) rfl rfl rfl (by decide +kernel) ⟨Nat.le_of_ble_eq_true rfl, Nat.le_of_ble_eq_true rfl⟩) ⟨zBlind zEn_ok, va_recv hK hP (ci := 4) (q0 := 1) rfl rfl, zAt (av := [.ref S, .int i]) zEn_ok hP hD hK hS hA hE [1, 2] rfl (by decide)⟩ rfl rfl hl.1 rfl (lv_room (Nat.le_of_ble_eq_true rfl)) dX5_row_5 ⟨Nat.zero_le _, Nat.zero_le _⟩) hP hD hS hA rfl (fun _ => rfl) (fun r5 u5 H locs w5 hP hD hS => ?_)
  obtain ⟨rfl, w5⟩ := w5
  have hP : va_P D vwCl [(x0, .inr (5, [.ref G, .ref S, .ref rd, .ref td, .ref la, .ref sp, .int (nI dn)])), (S, .inr (4, [.ref G, .ref ro, .ref od, .int (nI so)])), (G, .inr (0, [.ref ga, .int (nI n)])), (ga, .inl (cI, 96, .inl (fun jj => nI (g jj)))), (ro, .inl (cI, 97, .inl (fun jj => nI (f0 jj)))), (od, .inl (cI, 97, .inl (fun jj => nI (o0 jj))))] H := hP
  have hD : va_D A [(x0, .inr (5, [.ref G, .ref S, .ref rd, .ref td, .ref la, .ref sp, .int (nI dn)])), (S, .inr (4, [.ref G, .ref ro, .ref od, .int (nI so)])), (G, .inr (0, [.ref ga, .int (nI n)])), (ga, .inl (cI, 96, .inl (fun jj => nI (g jj)))), (ro, .inl (cI, 97, .inl (fun jj => nI (f0 jj)))), (od, .inl (cI, 97, .inl (fun jj => nI (o0 jj))))] := hD
  refine zz_eqb (tgt := 22) hx hb dX5_row_8 (by decide) (fun c8 => ?_) (fun c8 => ?_)
  · skip
    refine lv_iconst (v := (-1)) hx hb dX5_row_22 (by decide) ?_
    exact zIret hC hS (so, f0, o0) ⟨hso, Or.inr ⟨fun q h z => c8 (by rw [z]; have := zbef_le (g := g) h; exact ⟨nI_pos' (by omega), nI_lt (by omega) (by omega)⟩), rfl⟩⟩ hP (vp_nar_int _) dX5_row_23
  · skip
    obtain ⟨k, hk, rfl⟩ := zrng c8 hn
    refine lv_aload_n hx hb dX5_row_11 rfl (lv_at hl 0 rfl) ?_
    refine va_get (D := D) (ci := 5) (v := .ref S) (C := RX5) (T := TX5) (N := 7) hx hb hts (fun w h => List.mem_cons_of_mem _ (inUX5 w h)) hown hK hP 0 rfl rfl 1 (by decide) (hts _ (List.mem_cons_of_mem _ mw_155)) (fun _ h9 => h9) rfl dX5_row_12 ?_
    refine lv_iload_n hx hb dX5_row_15 rfl (lv_at hl 1 rfl) ?_
    refine zCi (is := [1, 2, 3, 4, 5]) (wf := (fun (uu : (Nat → Nat) × (Nat → Nat)) => ([(S, .inr (4, [.ref G, .ref ro, .ref od, .int (nI 1)])), (G, .inr (0, [.ref ga, .int (nI n)])), (ga, .inl (cI, 96, .inl (fun jj => nI (g jj)))), (ro, .inl (cI, 97, .inl (fun jj => nI (uu.1 jj)))), (od, .inl (cI, 97, .inl (fun jj => nI (uu.2 jj))))] : va_W))) (va_runV (As := [.int (nI k)]) (rest := []) ⟨hx, hb, hml, hown, hts⟩ (k_placeOfRow l D cI cC  S G ro od so ga n k g f0 o0 (by omega) hg (by omega) hso H.size) (cwV 1 hts (zgood mw_235 mw_236 mw_237 mw_28 mw_238) rfl rfl rfl (by decide +kernel) ⟨Nat.le_of_ble_eq_true rfl, Nat.le_of_ble_eq_true rfl⟩) ⟨zBlind zEn_ok, va_recv hK hP (ci := 4) (q0 := 1) rfl rfl, zAt (av := [.ref S, .int (nI k)]) zEn_ok hP hD hK hS hA hE [1, 2, 3, 4, 5] rfl (by decide)⟩ rfl rfl hl.1 rfl (lv_room (Nat.le_of_ble_eq_true rfl)) dX5_row_16 ⟨Nat.zero_le _, Nat.zero_le _⟩) hP hD hS hA rfl (fun _ => rfl) (fun r16 u16 H locs w16 hP hD hS => ?_)
    obtain ⟨rfl, w16⟩ := w16
    have hP : va_P D vwCl [(x0, .inr (5, [.ref G, .ref S, .ref rd, .ref td, .ref la, .ref sp, .int (nI dn)])), (S, .inr (4, [.ref G, .ref ro, .ref od, .int (nI 1)])), (G, .inr (0, [.ref ga, .int (nI n)])), (ga, .inl (cI, 96, .inl (fun jj => nI (g jj)))), (ro, .inl (cI, 97, .inl (fun jj => nI (u16.1 jj)))), (od, .inl (cI, 97, .inl (fun jj => nI (u16.2 jj))))] H := hP
    have hD : va_D A [(x0, .inr (5, [.ref G, .ref S, .ref rd, .ref td, .ref la, .ref sp, .int (nI dn)])), (S, .inr (4, [.ref G, .ref ro, .ref od, .int (nI 1)])), (G, .inr (0, [.ref ga, .int (nI n)])), (ga, .inl (cI, 96, .inl (fun jj => nI (g jj)))), (ro, .inl (cI, 97, .inl (fun jj => nI (u16.1 jj)))), (od, .inl (cI, 97, .inl (fun jj => nI (u16.2 jj))))] := hD
    refine lv_goto (tgt := 23) hx hb dX5_row_19 (by decide) ?_
    exact zIret hC hS (1, u16.1, u16.2) ⟨Or.inr ⟨rfl, w16⟩, Or.inl ⟨u16.2 k, (zord_at hg hn w16 hk).1, congrArg nI (zord_at hg hn w16 hk).2.symm, rfl⟩⟩ hP (vp_nar_int _) dX5_row_23
set_option maxHeartbeats 4000000 in
set_option maxRecDepth 100000 in
theorem f_last (l : Launch) (D : va_G) (cI cC : ClassId)  (x0 G S rd td la sp dn : Nat) (ro od so ga n : Nat) (i : Int32) (g f0 o0 : Nat → Nat) (hn : n ≤ 96) (hg : ∀ i, g i ≤ 4) (hso : so = 0 ∨ (so = 1 ∧ zord n g o0)) (sz : Nat) : Met l yX5_last wsX5_last ({ frames := 4, cells := 0, slots := 0, locals := 91 } : Room) (zPre zEn D vwCl [(cI, .int), (cC, .char)] [.ref x0, .int i] [(x0, .inr (5, [.ref G, .ref S, .ref rd, .ref td, .ref la, .ref sp, .int (nI dn)])), (S, .inr (4, [.ref G, .ref ro, .ref od, .int (nI so)])), (G, .inr (0, [.ref ga, .int (nI n)])), (ga, .inl (cI, 96, .inl (fun jj => nI (g jj)))), (ro, .inl (cI, 97, .inl (fun jj => nI (f0 jj)))), (od, .inl (cI, 97, .inl (fun jj => nI (o0 jj))))] sz) (va_Qi (fun (rv : Int32) (uu : Nat × (Nat → Nat) × (Nat → Nat)) => (uu.1 = 0 ∨ (uu.1 = 1 ∧ zord n g uu.2.2)) ∧ zlastR n g i rv) (fun (uu : Nat × (Nat → Nat) × (Nat → Nat)) t9 => va_P D vwCl ([(x0, .inr (5, [.ref G, .ref S, .ref rd, .ref td, .ref la, .ref sp, .int (nI dn)])), (S, .inr (4, [.ref G, .ref ro, .ref od, .int (nI (uu.1))])), (G, .inr (0, [.ref ga, .int (nI n)])), (ga, .inl (cI, 96, .inl (fun jj => nI (g jj)))), (ro, .inl (cI, 97, .inl (fun jj => nI (uu.2.1 jj)))), (od, .inl (cI, 97, .inl (fun jj => nI (uu.2.2 jj))))]) t9.heap) (va_A [(x0, .inr (5, [.ref G, .ref S, .ref rd, .ref td, .ref la, .ref sp, .int (nI dn)])), (S, .inr (4, [.ref G, .ref ro, .ref od, .int (nI so)])), (G, .inr (0, [.ref ga, .int (nI n)])), (ga, .inl (cI, 96, .inl (fun jj => nI (g jj)))), (ro, .inl (cI, 97, .inl (fun jj => nI (f0 jj)))), (od, .inl (cI, 97, .inl (fun jj => nI (o0 jj))))] sz)) 0 0 (va_A [(x0, .inr (5, [.ref G, .ref S, .ref rd, .ref td, .ref la, .ref sp, .int (nI dn)])), (S, .inr (4, [.ref G, .ref ro, .ref od, .int (nI so)])), (G, .inr (0, [.ref ga, .int (nI n)])), (ga, .inl (cI, 96, .inl (fun jj => nI (g jj)))), (ro, .inl (cI, 97, .inl (fun jj => nI (f0 jj)))), (od, .inl (cI, 97, .inl (fun jj => nI (o0 jj))))] sz) := by
  refine zMet (cc := cX5_last) (maxL := 2) (ret := (some .int)) (Qc := fun A => (va_Qi (fun (rv : Int32) (uu : Nat × (Nat → Nat) × (Nat → Nat)) => (uu.1 = 0 ∨ (uu.1 = 1 ∧ zord n g uu.2.2)) ∧ zlastR n g i rv) (fun (uu : Nat × (Nat → Nat) × (Nat → Nat)) t9 => va_P D vwCl ([(x0, .inr (5, [.ref G, .ref S, .ref rd, .ref td, .ref la, .ref sp, .int (nI dn)])), (S, .inr (4, [.ref G, .ref ro, .ref od, .int (nI (uu.1))])), (G, .inr (0, [.ref ga, .int (nI n)])), (ga, .inl (cI, 96, .inl (fun jj => nI (g jj)))), (ro, .inl (cI, 97, .inl (fun jj => nI (uu.2.1 jj)))), (od, .inl (cI, 97, .inl (fun jj => nI (uu.2.2 jj))))]) t9.heap) A)) (by decide) rfl (Nat.le_of_ble_eq_true rfl) ?_
  intro pr en s0 mi bl me co A hC hA hK hE H locs hP hD hS ls hl
  obtain ⟨hx, hb, hr, hml, hown, hts, hlocks, hin⟩ := id hC
  have hl : lv_has ls 2 [(0, .ref x0), (1, .int i)] := hl
  refine lv_aload_n hx hb dX5_last_0 rfl (lv_at hl 0 rfl) ?_
  refine va_get (D := D) (ci := 5) (v := .ref S) (C := RX5) (T := TX5) (N := 7) hx hb hts (fun w h => List.mem_cons_of_mem _ (inUX5 w h)) hown hK hP 0 rfl rfl 1 (by decide) (hts _ (List.mem_cons_of_mem _ mw_155)) (fun _ h9 => h9) rfl dX5_last_1 ?_
  refine lv_iload_n hx hb dX5_last_4 rfl (lv_at hl 1 rfl) ?_
  refine zCi (is := [1, 2]) (wf := (fun (uu : Unit) => ([(S, .inr (4, [.ref G, .ref ro, .ref od, .int (nI so)])), (G, .inr (0, [.ref ga, .int (nI n)]))] : va_W))) (va_runV (As := [.int i]) (rest := []) ⟨hx, hb, hml, hown, hts⟩ (k_hasRow l D cI cC  S G ro od so ga n i (by omega) H.size) (cwV 1 hts (zgood mw_227 mw_228 mw_229 mw_28 mw_230) rfl rfl rfl (by decide +kernel) ⟨Nat.le_of_ble_eq_true rfl, Nat.le_of_ble_eq_true rfl⟩) ⟨zBlind zEn_ok, va_recv hK hP (ci := 4) (q0 := 1) rfl rfl, zAt (av := [.ref S, .int i]) zEn_ok hP hD hK hS hA hE [1, 2] rfl (by decide)⟩ rfl rfl hl.1 rfl (lv_room (Nat.le_of_ble_eq_true rfl)) dX5_last_5 ⟨Nat.zero_le _, Nat.zero_le _⟩) hP hD hS hA rfl (fun _ => rfl) (fun r5 u5 H locs w5 hP hD hS => ?_)
  obtain ⟨rfl, w5⟩ := w5
  have hP : va_P D vwCl [(x0, .inr (5, [.ref G, .ref S, .ref rd, .ref td, .ref la, .ref sp, .int (nI dn)])), (S, .inr (4, [.ref G, .ref ro, .ref od, .int (nI so)])), (G, .inr (0, [.ref ga, .int (nI n)])), (ga, .inl (cI, 96, .inl (fun jj => nI (g jj)))), (ro, .inl (cI, 97, .inl (fun jj => nI (f0 jj)))), (od, .inl (cI, 97, .inl (fun jj => nI (o0 jj))))] H := hP
  have hD : va_D A [(x0, .inr (5, [.ref G, .ref S, .ref rd, .ref td, .ref la, .ref sp, .int (nI dn)])), (S, .inr (4, [.ref G, .ref ro, .ref od, .int (nI so)])), (G, .inr (0, [.ref ga, .int (nI n)])), (ga, .inl (cI, 96, .inl (fun jj => nI (g jj)))), (ro, .inl (cI, 97, .inl (fun jj => nI (f0 jj)))), (od, .inl (cI, 97, .inl (fun jj => nI (o0 jj))))] := hD
  refine zz_eqb (tgt := 22) hx hb dX5_last_8 (by decide) (fun c8 => ?_) (fun c8 => ?_)
  · skip
    refine lv_iconst (v := (-1)) hx hb dX5_last_22 (by decide) ?_
    exact zIret hC hS (so, f0, o0) ⟨hso, Or.inr ⟨fun q h z => c8 (by rw [z]; have := zbef_le (g := g) h; exact ⟨nI_pos' (by omega), nI_lt (by omega) (by omega)⟩), rfl⟩⟩ hP (vp_nar_int _) dX5_last_23
  · skip
    obtain ⟨k, hk, rfl⟩ := zrng c8 hn
    refine lv_aload_n hx hb dX5_last_11 rfl (lv_at hl 0 rfl) ?_
    refine va_get (D := D) (ci := 5) (v := .ref S) (C := RX5) (T := TX5) (N := 7) hx hb hts (fun w h => List.mem_cons_of_mem _ (inUX5 w h)) hown hK hP 0 rfl rfl 1 (by decide) (hts _ (List.mem_cons_of_mem _ mw_155)) (fun _ h9 => h9) rfl dX5_last_12 ?_
    refine lv_iload_n hx hb dX5_last_15 rfl (lv_at hl 1 rfl) ?_
    refine zCi (is := [1, 2, 3, 4, 5]) (wf := (fun (uu : (Nat → Nat) × (Nat → Nat)) => ([(S, .inr (4, [.ref G, .ref ro, .ref od, .int (nI 1)])), (G, .inr (0, [.ref ga, .int (nI n)])), (ga, .inl (cI, 96, .inl (fun jj => nI (g jj)))), (ro, .inl (cI, 97, .inl (fun jj => nI (uu.1 jj)))), (od, .inl (cI, 97, .inl (fun jj => nI (uu.2 jj))))] : va_W))) (va_runV (As := [.int (nI k)]) (rest := []) ⟨hx, hb, hml, hown, hts⟩ (k_symbolBefore l D cI cC  S G ro od so ga n k g f0 o0 (by omega) hg (by omega) hso H.size) (cwV 1 hts (zgood mw_251 mw_252 mw_253 mw_28 mw_254) rfl rfl rfl (by decide +kernel) ⟨Nat.le_of_ble_eq_true rfl, Nat.le_of_ble_eq_true rfl⟩) ⟨zBlind zEn_ok, va_recv hK hP (ci := 4) (q0 := 1) rfl rfl, zAt (av := [.ref S, .int (nI k)]) zEn_ok hP hD hK hS hA hE [1, 2, 3, 4, 5] rfl (by decide)⟩ rfl rfl hl.1 rfl (lv_room (Nat.le_of_ble_eq_true rfl)) dX5_last_16 ⟨Nat.zero_le _, Nat.zero_le _⟩) hP hD hS hA rfl (fun _ => rfl) (fun r16 u16 H locs w16 hP hD hS => ?_)
    obtain ⟨rfl, w16⟩ := w16
    have hP : va_P D vwCl [(x0, .inr (5, [.ref G, .ref S, .ref rd, .ref td, .ref la, .ref sp, .int (nI dn)])), (S, .inr (4, [.ref G, .ref ro, .ref od, .int (nI 1)])), (G, .inr (0, [.ref ga, .int (nI n)])), (ga, .inl (cI, 96, .inl (fun jj => nI (g jj)))), (ro, .inl (cI, 97, .inl (fun jj => nI (u16.1 jj)))), (od, .inl (cI, 97, .inl (fun jj => nI (u16.2 jj))))] H := hP
    have hD : va_D A [(x0, .inr (5, [.ref G, .ref S, .ref rd, .ref td, .ref la, .ref sp, .int (nI dn)])), (S, .inr (4, [.ref G, .ref ro, .ref od, .int (nI 1)])), (G, .inr (0, [.ref ga, .int (nI n)])), (ga, .inl (cI, 96, .inl (fun jj => nI (g jj)))), (ro, .inl (cI, 97, .inl (fun jj => nI (u16.1 jj)))), (od, .inl (cI, 97, .inl (fun jj => nI (u16.2 jj))))] := hD
    refine lv_goto (tgt := 23) hx hb dX5_last_19 (by decide) ?_
    exact zIret hC hS (1, u16.1, u16.2) ⟨Or.inr ⟨rfl, w16⟩, Or.inl ⟨u16.2 k, (zord_at hg hn w16 hk).1, congrArg nI (zord_at hg hn w16 hk).2.symm, rfl⟩⟩ hP (vp_nar_int _) dX5_last_23
set_option maxHeartbeats 4000000 in
set_option maxRecDepth 100000 in
theorem f_rank_L32 {pr : Program} {en : Env} {s0 : State} {mi : MethodId} {bl : List Frame} {me : Method} {co : Code} {A : Nat → Prop} (l : Launch) (D : va_G) (cI cC : ClassId)  (x0 G S rd td la sp dn : Nat) (ro od so ga n : Nat) (b i : Nat) (g f0 o0 : Nat → Nat) (hn : n ≤ 96) (hg : ∀ i, g i ≤ 4) (hso : so = 0 ∨ (so = 1 ∧ zord n g o0)) (hb5 : b ≤ 5) (hi : i ≤ n + 1) (hC : zK pr s0 mi ([.ref x0, .int (nI b), .int (nI i)] : List Value).toArray me co cX5_rank 5 (some .int) yX5_rank wsX5_rank) (hA : ∀ q, s0.heap.size ≤ q → A q) (hK : va_K D vwCl [(cI, .int), (cC, .char)] s0) (hE : zEn A s0 s0.heap) :
    ∀ (N : Nat) (k x so2 : Nat) (f o : Nat → Nat), i - k < N → (k ≤ i) → (x = zcnt (fun p => decide (zsb g p = b) && decide (zbef n g p < k)) (n + 1)) → (so2 = 0 ∨ (so2 = 1 ∧ zord n g o)) → ∀ (H : Heap) (locs : List Loc), va_P D vwCl [(x0, .inr (5, [.ref G, .ref S, .ref rd, .ref td, .ref la, .ref sp, .int (nI dn)])), (S, .inr (4, [.ref G, .ref ro, .ref od, .int (nI so2)])), (G, .inr (0, [.ref ga, .int (nI n)])), (ga, .inl (cI, 96, .inl (fun jj => nI (g jj)))), (ro, .inl (cI, 97, .inl (fun jj => nI (f jj)))), (od, .inl (cI, 97, .inl (fun jj => nI (o jj))))] H → va_D A [(x0, .inr (5, [.ref G, .ref S, .ref rd, .ref td, .ref la, .ref sp, .int (nI dn)])), (S, .inr (4, [.ref G, .ref ro, .ref od, .int (nI so2)])), (G, .inr (0, [.ref ga, .int (nI n)])), (ga, .inl (cI, 96, .inl (fun jj => nI (g jj)))), (ro, .inl (cI, 97, .inl (fun jj => nI (f jj)))), (od, .inl (cI, 97, .inl (fun jj => nI (o jj))))] → va_S A s0.heap H locs → ∀ ls : Array Slot, lv_has ls 5 [(0, .ref x0), (1, .int (nI b)), (2, .int (nI i)), (3, .int (nI x)), (4, .int (nI k))] → W pr l en ({ frames := 4, cells := 0, slots := 0, locals := 91 } : Room) s0 mi ([.ref x0, .int (nI b), .int (nI i)] : List Value).toArray bl me co H locs 0 0 (MQ bl (va_Qi (fun (rv : Int32) (uu : Nat × (Nat → Nat) × (Nat → Nat)) => rv = nI (zcnt (fun p => decide (zsb g p = b) && decide (zbef n g p < i)) (n + 1)) ∧ (uu.1 = 0 ∨ (uu.1 = 1 ∧ zord n g uu.2.2))) (fun (uu : Nat × (Nat → Nat) × (Nat → Nat)) t9 => va_P D vwCl ([(x0, .inr (5, [.ref G, .ref S, .ref rd, .ref td, .ref la, .ref sp, .int (nI dn)])), (S, .inr (4, [.ref G, .ref ro, .ref od, .int (nI (uu.1))])), (G, .inr (0, [.ref ga, .int (nI n)])), (ga, .inl (cI, 96, .inl (fun jj => nI (g jj)))), (ro, .inl (cI, 97, .inl (fun jj => nI (uu.2.1 jj)))), (od, .inl (cI, 97, .inl (fun jj => nI (uu.2.2 jj))))]) t9.heap) A) ([.ref x0, .int (nI b), .int (nI i)] : List Value).toArray s0 0 0 A) (F0 mi 32 ls []) := by
  obtain ⟨hx, hb, hr, hml, hown, hts, hlocks, hin⟩ := id hC
  intro N
  induction N with
  | zero =>
    intro k x so2 f o hmea
    omega
  | succ N ih =>
    intro k x so2 f o hmea hk hx1 hso2 H locs hP hD hS ls hl
    refine lv_iload hx hb dX5_rank_32 (lv_at hl 4 rfl) ?_
    refine lv_iload_n hx hb dX5_rank_34 rfl (lv_at hl 2 rfl) ?_
    refine zz_ge (tgt := 60) hx hb dX5_rank_35 (by decide) (by omega) (by omega) (fun c35 => ?_) (fun c35 => ?_)
    · skip
      refine lv_iload_n hx hb dX5_rank_60 rfl (lv_at hl 3 rfl) ?_
      exact zIret hC hS (so2, f, o) ⟨congrArg nI (by rw [hx1, show k = i by omega]), hso2⟩ hP (vp_nar_int _) dX5_rank_61
    · skip
      refine lv_aload_n hx hb dX5_rank_38 rfl (lv_at hl 0 rfl) ?_
      refine va_get (D := D) (ci := 5) (v := .ref S) (C := RX5) (T := TX5) (N := 7) hx hb hts (fun w h => List.mem_cons_of_mem _ (inUX5 w h)) hown hK hP 0 rfl rfl 1 (by decide) (hts _ (List.mem_cons_of_mem _ mw_155)) (fun _ h9 => h9) rfl dX5_rank_39 ?_
      refine lv_iload hx hb dX5_rank_42 (lv_at hl 4 rfl) ?_
      refine zCi (is := [1, 2, 3, 4, 5]) (wf := (fun (uu : (Nat → Nat) × (Nat → Nat)) => ([(S, .inr (4, [.ref G, .ref ro, .ref od, .int (nI 1)])), (G, .inr (0, [.ref ga, .int (nI n)])), (ga, .inl (cI, 96, .inl (fun jj => nI (g jj)))), (ro, .inl (cI, 97, .inl (fun jj => nI (uu.1 jj)))), (od, .inl (cI, 97, .inl (fun jj => nI (uu.2 jj))))] : va_W))) (va_runV (As := [.int (nI k)]) (rest := []) ⟨hx, hb, hml, hown, hts⟩ (k_symbolBefore l D cI cC  S G ro od so2 ga n k g f o (by omega) hg (by omega) hso2 H.size) (cwV 1 hts (zgood mw_251 mw_252 mw_253 mw_28 mw_254) rfl rfl rfl (by decide +kernel) ⟨Nat.le_of_ble_eq_true rfl, Nat.le_of_ble_eq_true rfl⟩) ⟨zBlind zEn_ok, va_recv hK hP (ci := 4) (q0 := 1) rfl rfl, zAt (av := [.ref S, .int (nI k)]) zEn_ok hP hD hK hS hA hE [1, 2, 3, 4, 5] rfl (by decide)⟩ rfl rfl hl.1 rfl (lv_room (Nat.le_of_ble_eq_true rfl)) dX5_rank_44 ⟨Nat.zero_le _, Nat.zero_le _⟩) hP hD hS hA rfl (fun _ => rfl) (fun r44 u44 H locs w44 hP hD hS => ?_)
      obtain ⟨rfl, w44⟩ := w44
      have hP : va_P D vwCl [(x0, .inr (5, [.ref G, .ref S, .ref rd, .ref td, .ref la, .ref sp, .int (nI dn)])), (S, .inr (4, [.ref G, .ref ro, .ref od, .int (nI 1)])), (G, .inr (0, [.ref ga, .int (nI n)])), (ga, .inl (cI, 96, .inl (fun jj => nI (g jj)))), (ro, .inl (cI, 97, .inl (fun jj => nI (u44.1 jj)))), (od, .inl (cI, 97, .inl (fun jj => nI (u44.2 jj))))] H := hP
      have hD : va_D A [(x0, .inr (5, [.ref G, .ref S, .ref rd, .ref td, .ref la, .ref sp, .int (nI dn)])), (S, .inr (4, [.ref G, .ref ro, .ref od, .int (nI 1)])), (G, .inr (0, [.ref ga, .int (nI n)])), (ga, .inl (cI, 96, .inl (fun jj => nI (g jj)))), (ro, .inl (cI, 97, .inl (fun jj => nI (u44.1 jj)))), (od, .inl (cI, 97, .inl (fun jj => nI (u44.2 jj))))] := hD
      refine lv_iload_n hx hb dX5_rank_47 rfl (lv_at hl 1 rfl) ?_
      refine zz_ne (tgt := 54) hx hb dX5_rank_48 (by decide) (by have := zsb_le hg (u44.2 k); omega) (by omega) (fun c48 => ?_) (fun c48 => ?_)
      · skip
        refine lv_iinc (v := nI (k + 1)) (lv' := [(4, .int (nI (k + 1))), (0, .ref x0), (1, .int (nI b)), (2, .int (nI i)), (3, .int (nI x))]) hx hb dX5_rank_54 hl (k := 4) rfl (zincE (by omega)) (by decide) rfl (fun ls hl => ?_)
        refine lv_goto (tgt := 32) hx hb dX5_rank_57 (by decide) ?_
        exact ih (k + 1) x 1 u44.1 u44.2 (by omega) (by omega) (by rw [zrank_s (fun p => decide (zsb g p = b)) hg hn (zord_at hg hn w44 (show k ≤ n by omega)).1 (zord_at hg hn w44 (show k ≤ n by omega)).2, if_neg (by simpa using c48)]; omega) (Or.inr ⟨rfl, w44⟩) _ _ hP hD hS ls (lv_sub hl [1, 2, 3, 4, 0] rfl)
      · skip
        refine lv_iinc (v := nI (x + 1)) (lv' := [(3, .int (nI (x + 1))), (0, .ref x0), (1, .int (nI b)), (2, .int (nI i)), (4, .int (nI k))]) hx hb dX5_rank_51 hl (k := 3) rfl (zincE (by omega)) (by decide) rfl (fun ls hl => ?_)
        refine lv_iinc (v := nI (k + 1)) (lv' := [(4, .int (nI (k + 1))), (3, .int (nI (x + 1))), (0, .ref x0), (1, .int (nI b)), (2, .int (nI i))]) hx hb dX5_rank_54 hl (k := 4) rfl (zincE (by omega)) (by decide) rfl (fun ls hl => ?_)
        refine lv_goto (tgt := 32) hx hb dX5_rank_57 (by decide) ?_
        exact ih (k + 1) (x + 1) 1 u44.1 u44.2 (by omega) (by omega) (by rw [zrank_s (fun p => decide (zsb g p = b)) hg hn (zord_at hg hn w44 (show k ≤ n by omega)).1 (zord_at hg hn w44 (show k ≤ n by omega)).2, if_pos (by simpa using c48)]; omega) (Or.inr ⟨rfl, w44⟩) _ _ hP hD hS ls (lv_sub hl [2, 3, 4, 1, 0] rfl)
set_option maxHeartbeats 4000000 in
set_option maxRecDepth 100000 in
theorem f_rank (l : Launch) (D : va_G) (cI cC : ClassId)  (x0 G S rd td la sp dn : Nat) (ro od so ga n : Nat) (b i : Nat) (g f0 o0 : Nat → Nat) (hn : n ≤ 96) (hg : ∀ i, g i ≤ 4) (hso : so = 0 ∨ (so = 1 ∧ zord n g o0)) (hb5 : b ≤ 5) (hi : i ≤ n + 1) (sz : Nat) : Met l yX5_rank wsX5_rank ({ frames := 4, cells := 0, slots := 0, locals := 91 } : Room) (zPre zEn D vwCl [(cI, .int), (cC, .char)] [.ref x0, .int (nI b), .int (nI i)] [(x0, .inr (5, [.ref G, .ref S, .ref rd, .ref td, .ref la, .ref sp, .int (nI dn)])), (S, .inr (4, [.ref G, .ref ro, .ref od, .int (nI so)])), (G, .inr (0, [.ref ga, .int (nI n)])), (ga, .inl (cI, 96, .inl (fun jj => nI (g jj)))), (ro, .inl (cI, 97, .inl (fun jj => nI (f0 jj)))), (od, .inl (cI, 97, .inl (fun jj => nI (o0 jj))))] sz) (va_Qi (fun (rv : Int32) (uu : Nat × (Nat → Nat) × (Nat → Nat)) => rv = nI (zcnt (fun p => decide (zsb g p = b) && decide (zbef n g p < i)) (n + 1)) ∧ (uu.1 = 0 ∨ (uu.1 = 1 ∧ zord n g uu.2.2))) (fun (uu : Nat × (Nat → Nat) × (Nat → Nat)) t9 => va_P D vwCl ([(x0, .inr (5, [.ref G, .ref S, .ref rd, .ref td, .ref la, .ref sp, .int (nI dn)])), (S, .inr (4, [.ref G, .ref ro, .ref od, .int (nI (uu.1))])), (G, .inr (0, [.ref ga, .int (nI n)])), (ga, .inl (cI, 96, .inl (fun jj => nI (g jj)))), (ro, .inl (cI, 97, .inl (fun jj => nI (uu.2.1 jj)))), (od, .inl (cI, 97, .inl (fun jj => nI (uu.2.2 jj))))]) t9.heap) (va_A [(x0, .inr (5, [.ref G, .ref S, .ref rd, .ref td, .ref la, .ref sp, .int (nI dn)])), (S, .inr (4, [.ref G, .ref ro, .ref od, .int (nI so)])), (G, .inr (0, [.ref ga, .int (nI n)])), (ga, .inl (cI, 96, .inl (fun jj => nI (g jj)))), (ro, .inl (cI, 97, .inl (fun jj => nI (f0 jj)))), (od, .inl (cI, 97, .inl (fun jj => nI (o0 jj))))] sz)) 0 0 (va_A [(x0, .inr (5, [.ref G, .ref S, .ref rd, .ref td, .ref la, .ref sp, .int (nI dn)])), (S, .inr (4, [.ref G, .ref ro, .ref od, .int (nI so)])), (G, .inr (0, [.ref ga, .int (nI n)])), (ga, .inl (cI, 96, .inl (fun jj => nI (g jj)))), (ro, .inl (cI, 97, .inl (fun jj => nI (f0 jj)))), (od, .inl (cI, 97, .inl (fun jj => nI (o0 jj))))] sz) := by
  refine zMet (cc := cX5_rank) (maxL := 5) (ret := (some .int)) (Qc := fun A => (va_Qi (fun (rv : Int32) (uu : Nat × (Nat → Nat) × (Nat → Nat)) => rv = nI (zcnt (fun p => decide (zsb g p = b) && decide (zbef n g p < i)) (n + 1)) ∧ (uu.1 = 0 ∨ (uu.1 = 1 ∧ zord n g uu.2.2))) (fun (uu : Nat × (Nat → Nat) × (Nat → Nat)) t9 => va_P D vwCl ([(x0, .inr (5, [.ref G, .ref S, .ref rd, .ref td, .ref la, .ref sp, .int (nI dn)])), (S, .inr (4, [.ref G, .ref ro, .ref od, .int (nI (uu.1))])), (G, .inr (0, [.ref ga, .int (nI n)])), (ga, .inl (cI, 96, .inl (fun jj => nI (g jj)))), (ro, .inl (cI, 97, .inl (fun jj => nI (uu.2.1 jj)))), (od, .inl (cI, 97, .inl (fun jj => nI (uu.2.2 jj))))]) t9.heap) A)) (by decide) rfl (Nat.le_of_ble_eq_true rfl) ?_
  intro pr en s0 mi bl me co A hC hA hK hE H locs hP hD hS ls hl
  obtain ⟨hx, hb, hr, hml, hown, hts, hlocks, hin⟩ := id hC
  have hl : lv_has ls 5 [(0, .ref x0), (1, .int (nI b)), (2, .int (nI i))] := hl
  refine lv_iload_n hx hb dX5_rank_0 rfl (lv_at hl 1 rfl) ?_
  refine zz_lt0 (tgt := 24) hx hb dX5_rank_1 (by decide) (by omega) ?_
  refine lv_iload_n hx hb dX5_rank_4 rfl (lv_at hl 1 rfl) ?_
  refine lv_iconst (v := nI 5) hx hb dX5_rank_5 (by decide) ?_
  refine zz_gt (tgt := 24) hx hb dX5_rank_6 (by decide) (by omega) (by omega) (fun c6 => ?_) (fun c6 => ?_)
  · skip
    exact absurd c6 (by omega)
  · skip
    refine lv_iload_n hx hb dX5_rank_9 rfl (lv_at hl 2 rfl) ?_
    refine zz_lt0 (tgt := 24) hx hb dX5_rank_10 (by decide) (by omega) ?_
    refine lv_iload_n hx hb dX5_rank_13 rfl (lv_at hl 2 rfl) ?_
    refine lv_aload_n hx hb dX5_rank_14 rfl (lv_at hl 0 rfl) ?_
    refine va_get (D := D) (ci := 5) (v := .ref S) (C := RX5) (T := TX5) (N := 7) hx hb hts (fun w h => List.mem_cons_of_mem _ (inUX5 w h)) hown hK hP 0 rfl rfl 1 (by decide) (hts _ (List.mem_cons_of_mem _ mw_155)) (fun _ h9 => h9) rfl dX5_rank_15 ?_
    refine zCi (is := [1, 2]) (wf := (fun (uu : Unit) => ([(S, .inr (4, [.ref G, .ref ro, .ref od, .int (nI so)])), (G, .inr (0, [.ref ga, .int (nI n)]))] : va_W))) (va_runV (As := []) (rest := [.int (nI i)]) ⟨hx, hb, hml, hown, hts⟩ (k_rows l D cI cC  S G ro od so ga n (by omega) H.size) (cwV 0 hts (zgood mw_260 mw_232 mw_233 mw_28 mw_234) rfl rfl rfl (by decide +kernel) ⟨Nat.le_of_ble_eq_true rfl, Nat.le_of_ble_eq_true rfl⟩) ⟨zBlind zEn_ok, va_recv hK hP (ci := 4) (q0 := 1) rfl rfl, zAt (av := [.ref S]) zEn_ok hP hD hK hS hA hE [1, 2] rfl (by decide)⟩ rfl rfl hl.1 rfl (lv_room (Nat.le_of_ble_eq_true rfl)) dX5_rank_18 ⟨Nat.zero_le _, Nat.zero_le _⟩) hP hD hS hA rfl (fun _ => rfl) (fun r18 u18 H locs w18 hP hD hS => ?_)
    obtain ⟨rfl, w18⟩ := w18
    have hP : va_P D vwCl [(x0, .inr (5, [.ref G, .ref S, .ref rd, .ref td, .ref la, .ref sp, .int (nI dn)])), (S, .inr (4, [.ref G, .ref ro, .ref od, .int (nI so)])), (G, .inr (0, [.ref ga, .int (nI n)])), (ga, .inl (cI, 96, .inl (fun jj => nI (g jj)))), (ro, .inl (cI, 97, .inl (fun jj => nI (f0 jj)))), (od, .inl (cI, 97, .inl (fun jj => nI (o0 jj))))] H := hP
    have hD : va_D A [(x0, .inr (5, [.ref G, .ref S, .ref rd, .ref td, .ref la, .ref sp, .int (nI dn)])), (S, .inr (4, [.ref G, .ref ro, .ref od, .int (nI so)])), (G, .inr (0, [.ref ga, .int (nI n)])), (ga, .inl (cI, 96, .inl (fun jj => nI (g jj)))), (ro, .inl (cI, 97, .inl (fun jj => nI (f0 jj)))), (od, .inl (cI, 97, .inl (fun jj => nI (o0 jj))))] := hD
    refine zz_le (tgt := 27) hx hb dX5_rank_21 (by decide) (by omega) (by omega) (fun c21 => ?_) (fun c21 => ?_)
    · skip
      refine lv_iconst (v := nI 0) hx hb dX5_rank_27 (by decide) ?_
      refine lv_istore_n (lv' := [(3, .int (nI 0)), (0, .ref x0), (1, .int (nI b)), (2, .int (nI i))]) hx hb dX5_rank_28 rfl hl (by decide) rfl (fun ls hl => ?_)
      refine lv_iconst (v := nI 0) hx hb dX5_rank_29 (by decide) ?_
      refine lv_istore (lv' := [(4, .int (nI 0)), (3, .int (nI 0)), (0, .ref x0), (1, .int (nI b)), (2, .int (nI i))]) hx hb dX5_rank_30 hl (by decide) rfl (fun ls hl => ?_)
      exact f_rank_L32 l D cI cC  x0 G S rd td la sp dn ro od so ga n b i g f0 o0 hn hg hso hb5 hi hC hA hK hE _ 0 0 so f0 o0 (Nat.lt_succ_self _) (Nat.zero_le _) (zcnt_none (n + 1) (fun p _ => by simp)).symm hso _ _ hP hD hS ls (lv_sub hl [2, 3, 4, 1, 0] rfl)
    · skip
      exact absurd c21 (by omega)
set_option maxHeartbeats 4000000 in
set_option maxRecDepth 100000 in
theorem f_rank0 (l : Launch) (D : va_G) (cI cC : ClassId)  (x0 G S rd td la sp dn : Nat) (ro od so ga n : Nat) (b i : Int32) (hn : n ≤ 96) (hbad : (b < 0 ∨ nI 5 < b) ∨ (i < 0 ∨ nI (n + 1) < i)) (sz : Nat) : Met l yX5_rank wsX5_rank ({ frames := 1, cells := 0, slots := 0, locals := 20 } : Room) (zPre zEn D vwCl [(cI, .int), (cC, .char)] [.ref x0, .int b, .int i] [(x0, .inr (5, [.ref G, .ref S, .ref rd, .ref td, .ref la, .ref sp, .int (nI dn)])), (S, .inr (4, [.ref G, .ref ro, .ref od, .int (nI so)])), (G, .inr (0, [.ref ga, .int (nI n)]))] sz) (va_Qi (fun (rv : Int32) (uu : Unit) => rv = (-2) ∧ True) (fun (uu : Unit) t9 => va_P D vwCl ([(x0, .inr (5, [.ref G, .ref S, .ref rd, .ref td, .ref la, .ref sp, .int (nI dn)])), (S, .inr (4, [.ref G, .ref ro, .ref od, .int (nI so)])), (G, .inr (0, [.ref ga, .int (nI n)]))]) t9.heap) (va_A [(x0, .inr (5, [.ref G, .ref S, .ref rd, .ref td, .ref la, .ref sp, .int (nI dn)])), (S, .inr (4, [.ref G, .ref ro, .ref od, .int (nI so)])), (G, .inr (0, [.ref ga, .int (nI n)]))] sz)) 0 0 (va_A [(x0, .inr (5, [.ref G, .ref S, .ref rd, .ref td, .ref la, .ref sp, .int (nI dn)])), (S, .inr (4, [.ref G, .ref ro, .ref od, .int (nI so)])), (G, .inr (0, [.ref ga, .int (nI n)]))] sz) := by
  refine zMet (cc := cX5_rank) (maxL := 5) (ret := (some .int)) (Qc := fun A => (va_Qi (fun (rv : Int32) (uu : Unit) => rv = (-2) ∧ True) (fun (uu : Unit) t9 => va_P D vwCl ([(x0, .inr (5, [.ref G, .ref S, .ref rd, .ref td, .ref la, .ref sp, .int (nI dn)])), (S, .inr (4, [.ref G, .ref ro, .ref od, .int (nI so)])), (G, .inr (0, [.ref ga, .int (nI n)]))]) t9.heap) A)) (by decide) rfl (Nat.le_of_ble_eq_true rfl) ?_
  intro pr en s0 mi bl me co A hC hA hK hE H locs hP hD hS ls hl
  obtain ⟨hx, hb, hr, hml, hown, hts, hlocks, hin⟩ := id hC
  have hl : lv_has ls 5 [(0, .ref x0), (1, .int b), (2, .int i)] := hl
  refine lv_iload_n hx hb dX5_rank_0 rfl (lv_at hl 1 rfl) ?_
  refine lv_if_lt (tgt := 24) hx hb dX5_rank_1 (by decide) (fun c1 => ?_) (fun c1 => ?_)
  · skip
    refine lv_bipush (v := (-2)) hx hb dX5_rank_24 (by decide) ?_
    exact zIret hC hS () ⟨rfl, trivial⟩ hP (vp_nar_int _) dX5_rank_26
  · skip
    refine lv_iload_n hx hb dX5_rank_4 rfl (lv_at hl 1 rfl) ?_
    refine lv_iconst (v := nI 5) hx hb dX5_rank_5 (by decide) ?_
    refine lv_icmp_gt (tgt := 24) hx hb dX5_rank_6 (by decide) (fun c6 => ?_) (fun c6 => ?_)
    · skip
      refine lv_bipush (v := (-2)) hx hb dX5_rank_24 (by decide) ?_
      exact zIret hC hS () ⟨rfl, trivial⟩ hP (vp_nar_int _) dX5_rank_26
    · skip
      refine lv_iload_n hx hb dX5_rank_9 rfl (lv_at hl 2 rfl) ?_
      refine lv_if_lt (tgt := 24) hx hb dX5_rank_10 (by decide) (fun c10 => ?_) (fun c10 => ?_)
      · skip
        refine lv_bipush (v := (-2)) hx hb dX5_rank_24 (by decide) ?_
        exact zIret hC hS () ⟨rfl, trivial⟩ hP (vp_nar_int _) dX5_rank_26
      · skip
        refine lv_iload_n hx hb dX5_rank_13 rfl (lv_at hl 2 rfl) ?_
        refine lv_aload_n hx hb dX5_rank_14 rfl (lv_at hl 0 rfl) ?_
        refine va_get (D := D) (ci := 5) (v := .ref S) (C := RX5) (T := TX5) (N := 7) hx hb hts (fun w h => List.mem_cons_of_mem _ (inUX5 w h)) hown hK hP 0 rfl rfl 1 (by decide) (hts _ (List.mem_cons_of_mem _ mw_155)) (fun _ h9 => h9) rfl dX5_rank_15 ?_
        refine zCi (is := [1, 2]) (wf := (fun (uu : Unit) => ([(S, .inr (4, [.ref G, .ref ro, .ref od, .int (nI so)])), (G, .inr (0, [.ref ga, .int (nI n)]))] : va_W))) (va_runV (As := []) (rest := [.int i]) ⟨hx, hb, hml, hown, hts⟩ (k_rows l D cI cC  S G ro od so ga n (by omega) H.size) (cwV 0 hts (zgood mw_260 mw_232 mw_233 mw_28 mw_234) rfl rfl rfl (by decide +kernel) ⟨Nat.le_of_ble_eq_true rfl, Nat.le_of_ble_eq_true rfl⟩) ⟨zBlind zEn_ok, va_recv hK hP (ci := 4) (q0 := 1) rfl rfl, zAt (av := [.ref S]) zEn_ok hP hD hK hS hA hE [1, 2] rfl (by decide)⟩ rfl rfl hl.1 rfl (lv_room (Nat.le_of_ble_eq_true rfl)) dX5_rank_18 ⟨Nat.zero_le _, Nat.zero_le _⟩) hP hD hS hA rfl (fun _ => rfl) (fun r18 u18 H locs w18 hP hD hS => ?_)
        obtain ⟨rfl, w18⟩ := w18
        have hP : va_P D vwCl [(x0, .inr (5, [.ref G, .ref S, .ref rd, .ref td, .ref la, .ref sp, .int (nI dn)])), (S, .inr (4, [.ref G, .ref ro, .ref od, .int (nI so)])), (G, .inr (0, [.ref ga, .int (nI n)]))] H := hP
        have hD : va_D A [(x0, .inr (5, [.ref G, .ref S, .ref rd, .ref td, .ref la, .ref sp, .int (nI dn)])), (S, .inr (4, [.ref G, .ref ro, .ref od, .int (nI so)])), (G, .inr (0, [.ref ga, .int (nI n)]))] := hD
        refine lv_icmp_le (tgt := 27) hx hb dX5_rank_21 (by decide) (fun c21 => ?_) (fun c21 => ?_)
        · skip
          exact absurd hbad (fun q => by rcases q with (q | q) | (q | q); exact c1 q; exact c6 q; exact c10 q; exact absurd q (Int32.not_lt.mpr c21))
        · skip
          refine lv_bipush (v := (-2)) hx hb dX5_rank_24 (by decide) ?_
          exact zIret hC hS () ⟨rfl, trivial⟩ hP (vp_nar_int _) dX5_rank_26
set_option maxHeartbeats 4000000 in
set_option maxRecDepth 100000 in
theorem f_first_L14 {pr : Program} {en : Env} {s0 : State} {mi : MethodId} {bl : List Frame} {me : Method} {co : Code} {A : Nat → Prop} (l : Launch) (D : va_G) (cI cC : ClassId)  (x0 G S rd td la sp dn : Nat) (ro od so ga n : Nat) (ra w : Nat) (g f0 o0 : Nat → Nat) (r : Nat → Nat) (hn : n ≤ 96) (hg : ∀ i, g i ≤ 4) (hso : so = 0 ∨ (so = 1 ∧ zord n g o0)) (hw : w ≤ 24) (hr3 : ∀ i, i < w → r i ≤ 3) (hC : zK pr s0 mi ([.ref x0] : List Value).toArray me co cX5_first 2 (some .int) yX5_first wsX5_first) (hA : ∀ q, s0.heap.size ≤ q → A q) (hK : va_K D vwCl [(cI, .int), (cC, .char)] s0) (hE : zEn A s0 s0.heap) :
    ∀ (N : Nat) (k so2 : Nat) (f o : Nat → Nat), n + 1 - k < N → (k ≤ n + 1) → (0 < w) → (so2 = 0 ∨ (so2 = 1 ∧ zord n g o)) → (∀ p, p ≤ n → zbef n g p < k → ¬ (0 < w ∧ p + w ≤ n ∧ zmm g r p w = 0)) → ∀ (H : Heap) (locs : List Loc), va_P D vwCl [(x0, .inr (5, [.ref G, .ref S, .ref rd, .ref td, .ref la, .ref sp, .int (nI dn)])), (S, .inr (4, [.ref G, .ref ro, .ref od, .int (nI so2)])), (G, .inr (0, [.ref ga, .int (nI n)])), (ga, .inl (cI, 96, .inl (fun jj => nI (g jj)))), (ro, .inl (cI, 97, .inl (fun jj => nI (f jj)))), (od, .inl (cI, 97, .inl (fun jj => nI (o jj)))), (rd, .inr (0, [.ref ra, .int (nI w)])), (ra, .inl (cI, 24, .inl (fun jj => nI (r jj))))] H → va_D A [(x0, .inr (5, [.ref G, .ref S, .ref rd, .ref td, .ref la, .ref sp, .int (nI dn)])), (S, .inr (4, [.ref G, .ref ro, .ref od, .int (nI so2)])), (G, .inr (0, [.ref ga, .int (nI n)])), (ga, .inl (cI, 96, .inl (fun jj => nI (g jj)))), (ro, .inl (cI, 97, .inl (fun jj => nI (f jj)))), (od, .inl (cI, 97, .inl (fun jj => nI (o jj)))), (rd, .inr (0, [.ref ra, .int (nI w)])), (ra, .inl (cI, 24, .inl (fun jj => nI (r jj))))] → va_S A s0.heap H locs → ∀ ls : Array Slot, lv_has ls 2 [(0, .ref x0), (1, .int (nI k))] → W pr l en ({ frames := 3, cells := 0, slots := 0, locals := 69 } : Room) s0 mi ([.ref x0] : List Value).toArray bl me co H locs 0 0 (MQ bl (va_Qi (fun (rv : Int32) (uu : Nat × (Nat → Nat) × (Nat → Nat)) => (uu.1 = 0 ∨ (uu.1 = 1 ∧ zord n g uu.2.2)) ∧ zfst n g (fun p => 0 < w ∧ p + w ≤ n ∧ zmm g r p w = 0) n rv) (fun (uu : Nat × (Nat → Nat) × (Nat → Nat)) t9 => va_P D vwCl ([(x0, .inr (5, [.ref G, .ref S, .ref rd, .ref td, .ref la, .ref sp, .int (nI dn)])), (S, .inr (4, [.ref G, .ref ro, .ref od, .int (nI (uu.1))])), (G, .inr (0, [.ref ga, .int (nI n)])), (ga, .inl (cI, 96, .inl (fun jj => nI (g jj)))), (ro, .inl (cI, 97, .inl (fun jj => nI (uu.2.1 jj)))), (od, .inl (cI, 97, .inl (fun jj => nI (uu.2.2 jj)))), (rd, .inr (0, [.ref ra, .int (nI w)])), (ra, .inl (cI, 24, .inl (fun jj => nI (r jj))))]) t9.heap) A) ([.ref x0] : List Value).toArray s0 0 0 A) (F0 mi 14 ls []) := by
  obtain ⟨hx, hb, hr, hml, hown, hts, hlocks, hin⟩ := id hC
  intro N
  induction N with
  | zero =>
    intro k so2 f o hmea
    omega
  | succ N ih =>
    intro k so2 f o hmea hk hw0 hso2 hno H locs hP hD hS ls hl
    refine lv_iload_n hx hb dX5_first_14 rfl (lv_at hl 1 rfl) ?_
    refine lv_aload_n hx hb dX5_first_15 rfl (lv_at hl 0 rfl) ?_
    refine va_get (D := D) (ci := 5) (v := .ref S) (C := RX5) (T := TX5) (N := 7) hx hb hts (fun w h => List.mem_cons_of_mem _ (inUX5 w h)) hown hK hP 0 rfl rfl 1 (by decide) (hts _ (List.mem_cons_of_mem _ mw_155)) (fun _ h9 => h9) rfl dX5_first_16 ?_
    refine zCi (is := [1, 2]) (wf := (fun (uu : Unit) => ([(S, .inr (4, [.ref G, .ref ro, .ref od, .int (nI so2)])), (G, .inr (0, [.ref ga, .int (nI n)]))] : va_W))) (va_runV (As := []) (rest := [.int (nI k)]) ⟨hx, hb, hml, hown, hts⟩ (k_rows l D cI cC  S G ro od so2 ga n (by omega) H.size) (cwV 0 hts (zgood mw_260 mw_232 mw_233 mw_28 mw_234) rfl rfl rfl (by decide +kernel) ⟨Nat.le_of_ble_eq_true rfl, Nat.le_of_ble_eq_true rfl⟩) ⟨zBlind zEn_ok, va_recv hK hP (ci := 4) (q0 := 1) rfl rfl, zAt (av := [.ref S]) zEn_ok hP hD hK hS hA hE [1, 2] rfl (by decide)⟩ rfl rfl hl.1 rfl (lv_room (Nat.le_of_ble_eq_true rfl)) dX5_first_19 ⟨Nat.zero_le _, Nat.zero_le _⟩) hP hD hS hA rfl (fun _ => rfl) (fun r19 u19 H locs w19 hP hD hS => ?_)
    obtain ⟨rfl, w19⟩ := w19
    have hP : va_P D vwCl [(x0, .inr (5, [.ref G, .ref S, .ref rd, .ref td, .ref la, .ref sp, .int (nI dn)])), (S, .inr (4, [.ref G, .ref ro, .ref od, .int (nI so2)])), (G, .inr (0, [.ref ga, .int (nI n)])), (ga, .inl (cI, 96, .inl (fun jj => nI (g jj)))), (ro, .inl (cI, 97, .inl (fun jj => nI (f jj)))), (od, .inl (cI, 97, .inl (fun jj => nI (o jj)))), (rd, .inr (0, [.ref ra, .int (nI w)])), (ra, .inl (cI, 24, .inl (fun jj => nI (r jj))))] H := hP
    have hD : va_D A [(x0, .inr (5, [.ref G, .ref S, .ref rd, .ref td, .ref la, .ref sp, .int (nI dn)])), (S, .inr (4, [.ref G, .ref ro, .ref od, .int (nI so2)])), (G, .inr (0, [.ref ga, .int (nI n)])), (ga, .inl (cI, 96, .inl (fun jj => nI (g jj)))), (ro, .inl (cI, 97, .inl (fun jj => nI (f jj)))), (od, .inl (cI, 97, .inl (fun jj => nI (o jj)))), (rd, .inr (0, [.ref ra, .int (nI w)])), (ra, .inl (cI, 24, .inl (fun jj => nI (r jj))))] := hD
    refine zz_ge (tgt := 55) hx hb dX5_first_22 (by decide) (by omega) (by omega) (fun c22 => ?_) (fun c22 => ?_)
    · skip
      refine lv_iconst (v := (-1)) hx hb dX5_first_55 (by decide) ?_
      exact zIret hC hS (so2, f, o) ⟨hso2, Or.inl ⟨rfl, fun p h => hno p (by omega) (by have := zbef_le (g := g) (show p ≤ n by omega); omega)⟩⟩ hP (vp_nar_int _) dX5_first_56
    · skip
      refine lv_aload_n hx hb dX5_first_25 rfl (lv_at hl 0 rfl) ?_
      refine va_get (D := D) (ci := 5) (v := .ref G) (C := RX5) (T := TX5) (N := 7) hx hb hts (fun w h => List.mem_cons_of_mem _ (inUX5 w h)) hown hK hP 0 rfl rfl 0 (by decide) (hts _ (List.mem_cons_of_mem _ mw_154)) (fun _ h9 => h9) rfl dX5_first_26 ?_
      refine lv_aload_n hx hb dX5_first_29 rfl (lv_at hl 0 rfl) ?_
      refine va_get (D := D) (ci := 5) (v := .ref S) (C := RX5) (T := TX5) (N := 7) hx hb hts (fun w h => List.mem_cons_of_mem _ (inUX5 w h)) hown hK hP 0 rfl rfl 1 (by decide) (hts _ (List.mem_cons_of_mem _ mw_155)) (fun _ h9 => h9) rfl dX5_first_30 ?_
      refine lv_iload_n hx hb dX5_first_33 rfl (lv_at hl 1 rfl) ?_
      refine zCi (is := [1, 2, 3, 4, 5]) (wf := (fun (uu : (Nat → Nat) × (Nat → Nat)) => ([(S, .inr (4, [.ref G, .ref ro, .ref od, .int (nI 1)])), (G, .inr (0, [.ref ga, .int (nI n)])), (ga, .inl (cI, 96, .inl (fun jj => nI (g jj)))), (ro, .inl (cI, 97, .inl (fun jj => nI (uu.1 jj)))), (od, .inl (cI, 97, .inl (fun jj => nI (uu.2 jj))))] : va_W))) (va_runV (As := [.int (nI k)]) (rest := [.ref G]) ⟨hx, hb, hml, hown, hts⟩ (k_placeOfRow l D cI cC  S G ro od so2 ga n k g f o (by omega) hg (by omega) hso2 H.size) (cwV 1 hts (zgood mw_235 mw_236 mw_237 mw_28 mw_238) rfl rfl rfl (by decide +kernel) ⟨Nat.le_of_ble_eq_true rfl, Nat.le_of_ble_eq_true rfl⟩) ⟨zBlind zEn_ok, va_recv hK hP (ci := 4) (q0 := 1) rfl rfl, zAt (av := [.ref S, .int (nI k)]) zEn_ok hP hD hK hS hA hE [1, 2, 3, 4, 5] rfl (by decide)⟩ rfl rfl hl.1 rfl (lv_room (Nat.le_of_ble_eq_true rfl)) dX5_first_34 ⟨Nat.zero_le _, Nat.zero_le _⟩) hP hD hS hA rfl (fun _ => rfl) (fun r34 u34 H locs w34 hP hD hS => ?_)
      obtain ⟨rfl, w34⟩ := w34
      have hP : va_P D vwCl [(x0, .inr (5, [.ref G, .ref S, .ref rd, .ref td, .ref la, .ref sp, .int (nI dn)])), (S, .inr (4, [.ref G, .ref ro, .ref od, .int (nI 1)])), (G, .inr (0, [.ref ga, .int (nI n)])), (ga, .inl (cI, 96, .inl (fun jj => nI (g jj)))), (ro, .inl (cI, 97, .inl (fun jj => nI (u34.1 jj)))), (od, .inl (cI, 97, .inl (fun jj => nI (u34.2 jj)))), (rd, .inr (0, [.ref ra, .int (nI w)])), (ra, .inl (cI, 24, .inl (fun jj => nI (r jj))))] H := hP
      have hD : va_D A [(x0, .inr (5, [.ref G, .ref S, .ref rd, .ref td, .ref la, .ref sp, .int (nI dn)])), (S, .inr (4, [.ref G, .ref ro, .ref od, .int (nI 1)])), (G, .inr (0, [.ref ga, .int (nI n)])), (ga, .inl (cI, 96, .inl (fun jj => nI (g jj)))), (ro, .inl (cI, 97, .inl (fun jj => nI (u34.1 jj)))), (od, .inl (cI, 97, .inl (fun jj => nI (u34.2 jj)))), (rd, .inr (0, [.ref ra, .int (nI w)])), (ra, .inl (cI, 24, .inl (fun jj => nI (r jj))))] := hD
      obtain ⟨z1, z2⟩ := zord_at hg hn w34 (show k ≤ n by omega)
      refine lv_aload_n hx hb dX5_first_37 rfl (lv_at hl 0 rfl) ?_
      refine va_get (D := D) (ci := 5) (v := .ref rd) (C := RX5) (T := TX5) (N := 7) hx hb hts (fun w h => List.mem_cons_of_mem _ (inUX5 w h)) hown hK hP 0 rfl rfl 2 (by decide) (hts _ (List.mem_cons_of_mem _ mw_156)) (fun _ h9 => h9) rfl dX5_first_38 ?_
      refine zCi (is := [2, 3, 6, 7]) (wf := (fun (uu : Unit) => ([(G, .inr (0, [.ref ga, .int (nI n)])), (ga, .inl (cI, 96, .inl (fun jj => nI (g jj)))), (rd, .inr (0, [.ref ra, .int (nI w)])), (ra, .inl (cI, 24, .inl (fun jj => nI (r jj))))] : va_W))) (va_runV (As := [.int (nI (u34.2 k)), .ref rd]) (rest := []) ⟨hx, hb, hml, hown, hts⟩ (k_holdsAt l D cI cC  G ga n rd ra w (u34.2 k) g r (by omega) (by omega) (by omega) hg hr3 H.size) (cwV 2 hts (zgood mw_265 mw_266 mw_267 mw_27 mw_268) rfl rfl rfl (by decide +kernel) ⟨Nat.le_of_ble_eq_true rfl, Nat.le_of_ble_eq_true rfl⟩) ⟨zBlind zE0_ok, va_recv hK hP (ci := 0) (q0 := 2) rfl rfl, zAt (av := [.ref G, .int (nI (u34.2 k)), .ref rd]) zE0_ok hP hD hK hS hA trivial [2, 3, 6, 7] rfl (by decide)⟩ rfl rfl hl.1 rfl (lv_room (Nat.le_of_ble_eq_true rfl)) dX5_first_41 ⟨Nat.zero_le _, Nat.zero_le _⟩) hP hD hS hA rfl (fun _ => rfl) (fun r41 u41 H locs w41 hP hD hS => ?_)
      obtain ⟨rfl, w41⟩ := w41
      have hP : va_P D vwCl [(x0, .inr (5, [.ref G, .ref S, .ref rd, .ref td, .ref la, .ref sp, .int (nI dn)])), (S, .inr (4, [.ref G, .ref ro, .ref od, .int (nI 1)])), (G, .inr (0, [.ref ga, .int (nI n)])), (ga, .inl (cI, 96, .inl (fun jj => nI (g jj)))), (ro, .inl (cI, 97, .inl (fun jj => nI (u34.1 jj)))), (od, .inl (cI, 97, .inl (fun jj => nI (u34.2 jj)))), (rd, .inr (0, [.ref ra, .int (nI w)])), (ra, .inl (cI, 24, .inl (fun jj => nI (r jj))))] H := hP
      have hD : va_D A [(x0, .inr (5, [.ref G, .ref S, .ref rd, .ref td, .ref la, .ref sp, .int (nI dn)])), (S, .inr (4, [.ref G, .ref ro, .ref od, .int (nI 1)])), (G, .inr (0, [.ref ga, .int (nI n)])), (ga, .inl (cI, 96, .inl (fun jj => nI (g jj)))), (ro, .inl (cI, 97, .inl (fun jj => nI (u34.1 jj)))), (od, .inl (cI, 97, .inl (fun jj => nI (u34.2 jj)))), (rd, .inr (0, [.ref ra, .int (nI w)])), (ra, .inl (cI, 24, .inl (fun jj => nI (r jj))))] := hD
      refine zz_eqb (tgt := 49) hx hb dX5_first_44 (by decide) (fun c44 => ?_) (fun c44 => ?_)
      · skip
        refine lv_iinc (v := nI (k + 1)) (lv' := [(1, .int (nI (k + 1))), (0, .ref x0)]) hx hb dX5_first_49 hl (k := 1) rfl (zincE (by omega)) (by decide) rfl (fun ls hl => ?_)
        refine lv_goto (tgt := 14) hx hb dX5_first_52 (by decide) ?_
        exact ih (k + 1) 1 u34.1 u34.2 (by omega) (by omega) hw0 (Or.inr ⟨rfl, w34⟩) (fun p h1 h2 h3 => by
          by_cases e : zbef n g p = k
          · have e2 := zbef_inj hg hn h1 z1 (e.trans z2.symm)
            exact c44 (by rw [← e2]; exact h3.2)
          · exact hno p h1 (by omega) h3) _ _ hP hD hS ls (lv_sub hl [1, 0] rfl)
      · skip
        refine lv_iload_n hx hb dX5_first_47 rfl (lv_at hl 1 rfl) ?_
        exact zIret hC hS (1, u34.1, u34.2) ⟨Or.inr ⟨rfl, w34⟩, Or.inr ⟨u34.2 k, by omega, ⟨hw0, c44.1, c44.2⟩, congrArg nI z2.symm, fun q h1 h2 => by rw [z2]; exact Nat.not_lt.mp (fun h => hno q (by omega) h h2)⟩⟩ hP (vp_nar_int _) dX5_first_48
set_option maxHeartbeats 4000000 in
set_option maxRecDepth 100000 in
theorem f_first (l : Launch) (D : va_G) (cI cC : ClassId)  (x0 G S rd td la sp dn : Nat) (ro od so ga n : Nat) (ra w : Nat) (g f0 o0 : Nat → Nat) (r : Nat → Nat) (hn : n ≤ 96) (hg : ∀ i, g i ≤ 4) (hso : so = 0 ∨ (so = 1 ∧ zord n g o0)) (hw : w ≤ 24) (hr3 : ∀ i, i < w → r i ≤ 3) (sz : Nat) : Met l yX5_first wsX5_first ({ frames := 3, cells := 0, slots := 0, locals := 69 } : Room) (zPre zEn D vwCl [(cI, .int), (cC, .char)] [.ref x0] [(x0, .inr (5, [.ref G, .ref S, .ref rd, .ref td, .ref la, .ref sp, .int (nI dn)])), (S, .inr (4, [.ref G, .ref ro, .ref od, .int (nI so)])), (G, .inr (0, [.ref ga, .int (nI n)])), (ga, .inl (cI, 96, .inl (fun jj => nI (g jj)))), (ro, .inl (cI, 97, .inl (fun jj => nI (f0 jj)))), (od, .inl (cI, 97, .inl (fun jj => nI (o0 jj)))), (rd, .inr (0, [.ref ra, .int (nI w)])), (ra, .inl (cI, 24, .inl (fun jj => nI (r jj))))] sz) (va_Qi (fun (rv : Int32) (uu : Nat × (Nat → Nat) × (Nat → Nat)) => (uu.1 = 0 ∨ (uu.1 = 1 ∧ zord n g uu.2.2)) ∧ zfst n g (fun p => 0 < w ∧ p + w ≤ n ∧ zmm g r p w = 0) n rv) (fun (uu : Nat × (Nat → Nat) × (Nat → Nat)) t9 => va_P D vwCl ([(x0, .inr (5, [.ref G, .ref S, .ref rd, .ref td, .ref la, .ref sp, .int (nI dn)])), (S, .inr (4, [.ref G, .ref ro, .ref od, .int (nI (uu.1))])), (G, .inr (0, [.ref ga, .int (nI n)])), (ga, .inl (cI, 96, .inl (fun jj => nI (g jj)))), (ro, .inl (cI, 97, .inl (fun jj => nI (uu.2.1 jj)))), (od, .inl (cI, 97, .inl (fun jj => nI (uu.2.2 jj)))), (rd, .inr (0, [.ref ra, .int (nI w)])), (ra, .inl (cI, 24, .inl (fun jj => nI (r jj))))]) t9.heap) (va_A [(x0, .inr (5, [.ref G, .ref S, .ref rd, .ref td, .ref la, .ref sp, .int (nI dn)])), (S, .inr (4, [.ref G, .ref ro, .ref od, .int (nI so)])), (G, .inr (0, [.ref ga, .int (nI n)])), (ga, .inl (cI, 96, .inl (fun jj => nI (g jj)))), (ro, .inl (cI, 97, .inl (fun jj => nI (f0 jj)))), (od, .inl (cI, 97, .inl (fun jj => nI (o0 jj)))), (rd, .inr (0, [.ref ra, .int (nI w)])), (ra, .inl (cI, 24, .inl (fun jj => nI (r jj))))] sz)) 0 0 (va_A [(x0, .inr (5, [.ref G, .ref S, .ref rd, .ref td, .ref la, .ref sp, .int (nI dn)])), (S, .inr (4, [.ref G, .ref ro, .ref od, .int (nI so)])), (G, .inr (0, [.ref ga, .int (nI n)])), (ga, .inl (cI, 96, .inl (fun jj => nI (g jj)))), (ro, .inl (cI, 97, .inl (fun jj => nI (f0 jj)))), (od, .inl (cI, 97, .inl (fun jj => nI (o0 jj)))), (rd, .inr (0, [.ref ra, .int (nI w)])), (ra, .inl (cI, 24, .inl (fun jj => nI (r jj))))] sz) := by
  refine zMet (cc := cX5_first) (maxL := 2) (ret := (some .int)) (Qc := fun A => (va_Qi (fun (rv : Int32) (uu : Nat × (Nat → Nat) × (Nat → Nat)) => (uu.1 = 0 ∨ (uu.1 = 1 ∧ zord n g uu.2.2)) ∧ zfst n g (fun p => 0 < w ∧ p + w ≤ n ∧ zmm g r p w = 0) n rv) (fun (uu : Nat × (Nat → Nat) × (Nat → Nat)) t9 => va_P D vwCl ([(x0, .inr (5, [.ref G, .ref S, .ref rd, .ref td, .ref la, .ref sp, .int (nI dn)])), (S, .inr (4, [.ref G, .ref ro, .ref od, .int (nI (uu.1))])), (G, .inr (0, [.ref ga, .int (nI n)])), (ga, .inl (cI, 96, .inl (fun jj => nI (g jj)))), (ro, .inl (cI, 97, .inl (fun jj => nI (uu.2.1 jj)))), (od, .inl (cI, 97, .inl (fun jj => nI (uu.2.2 jj)))), (rd, .inr (0, [.ref ra, .int (nI w)])), (ra, .inl (cI, 24, .inl (fun jj => nI (r jj))))]) t9.heap) A)) (by decide) rfl (Nat.le_of_ble_eq_true rfl) ?_
  intro pr en s0 mi bl me co A hC hA hK hE H locs hP hD hS ls hl
  obtain ⟨hx, hb, hr, hml, hown, hts, hlocks, hin⟩ := id hC
  have hl : lv_has ls 2 [(0, .ref x0)] := hl
  refine lv_aload_n hx hb dX5_first_0 rfl (lv_at hl 0 rfl) ?_
  refine va_get (D := D) (ci := 5) (v := .ref rd) (C := RX5) (T := TX5) (N := 7) hx hb hts (fun w h => List.mem_cons_of_mem _ (inUX5 w h)) hown hK hP 0 rfl rfl 2 (by decide) (hts _ (List.mem_cons_of_mem _ mw_156)) (fun _ h9 => h9) rfl dX5_first_1 ?_
  refine va_getN (D := D) (ci := 0) (v := .int (nI w)) (C := RX0) (T := TX0) (N := 2) hx hb hts (fun w h => List.mem_cons_of_mem _ (inUX0 w h)) hown hK hP 6 rfl rfl 1 (by decide) (va_Nw.use rfl (hE.1 ("StrandMapper", 63, "StrandMapper$Bases", "used", "I", "StrandMapper") (by decide +kernel))) (fun _ h9 => h9) rfl dX5_first_4 ?_
  refine zz_ne0 (tgt := 12) hx hb dX5_first_7 (by decide) (by omega) (fun c7 => ?_) (fun c7 => ?_)
  · skip
    refine lv_iconst (v := nI 0) hx hb dX5_first_12 (by decide) ?_
    refine lv_istore_n (lv' := [(1, .int (nI 0)), (0, .ref x0)]) hx hb dX5_first_13 rfl hl (by decide) rfl (fun ls hl => ?_)
    exact f_first_L14 l D cI cC  x0 G S rd td la sp dn ro od so ga n ra w g f0 o0 r hn hg hso hw hr3 hC hA hK hE _ 0 so f0 o0 (Nat.lt_succ_self _) (Nat.zero_le _) (by omega) hso (fun p h1 h2 => absurd h2 (Nat.not_lt_zero _)) _ _ hP hD hS ls (lv_sub hl [1, 0] rfl)
  · skip
    refine lv_iconst (v := (-1)) hx hb dX5_first_10 (by decide) ?_
    exact zIret hC hS (so, f0, o0) ⟨hso, Or.inl ⟨rfl, fun p _ q => by omega⟩⟩ hP (vp_nar_int _) dX5_first_11
set_option maxHeartbeats 4000000 in
set_option maxRecDepth 100000 in
theorem f_count_L16 {pr : Program} {en : Env} {s0 : State} {mi : MethodId} {bl : List Frame} {me : Method} {co : Code} {A : Nat → Prop} (l : Launch) (D : va_G) (cI cC : ClassId)  (x0 G S rd td la sp dn : Nat) (ga n : Nat) (ra w : Nat) (g : Nat → Nat) (r : Nat → Nat) (hn : n ≤ 96) (hg : ∀ i, g i ≤ 4) (hw : w ≤ 24) (hr3 : ∀ i, i < w → r i ≤ 3) (hC : zK pr s0 mi ([.ref x0] : List Value).toArray me co cX5_count 3 (some .int) yX5_count wsX5_count) (hA : ∀ q, s0.heap.size ≤ q → A q) (hK : va_K D vwCl [(cI, .int), (cC, .char)] s0) (hE : zEn A s0 s0.heap) :
    ∀ (N : Nat) (k x : Nat), n - k < N → (k ≤ n) → (0 < w) → (x = zcnt (fun p => decide (0 < w ∧ p + w ≤ n ∧ zmm g r p w = 0)) k) → ∀ (H : Heap) (locs : List Loc), va_P D vwCl [(x0, .inr (5, [.ref G, .ref S, .ref rd, .ref td, .ref la, .ref sp, .int (nI dn)])), (G, .inr (0, [.ref ga, .int (nI n)])), (ga, .inl (cI, 96, .inl (fun jj => nI (g jj)))), (rd, .inr (0, [.ref ra, .int (nI w)])), (ra, .inl (cI, 24, .inl (fun jj => nI (r jj))))] H → va_D A [(x0, .inr (5, [.ref G, .ref S, .ref rd, .ref td, .ref la, .ref sp, .int (nI dn)])), (G, .inr (0, [.ref ga, .int (nI n)])), (ga, .inl (cI, 96, .inl (fun jj => nI (g jj)))), (rd, .inr (0, [.ref ra, .int (nI w)])), (ra, .inl (cI, 24, .inl (fun jj => nI (r jj))))] → va_S A s0.heap H locs → ∀ ls : Array Slot, lv_has ls 3 [(0, .ref x0), (1, .int (nI x)), (2, .int (nI k))] → W pr l en ({ frames := 2, cells := 0, slots := 0, locals := 47 } : Room) s0 mi ([.ref x0] : List Value).toArray bl me co H locs 0 0 (MQ bl (va_Qi (fun (rv : Int32) (uu : Unit) => rv = nI (zcnt (fun p => decide (0 < w ∧ p + w ≤ n ∧ zmm g r p w = 0)) n) ∧ True) (fun (uu : Unit) t9 => va_P D vwCl ([(x0, .inr (5, [.ref G, .ref S, .ref rd, .ref td, .ref la, .ref sp, .int (nI dn)])), (G, .inr (0, [.ref ga, .int (nI n)])), (ga, .inl (cI, 96, .inl (fun jj => nI (g jj)))), (rd, .inr (0, [.ref ra, .int (nI w)])), (ra, .inl (cI, 24, .inl (fun jj => nI (r jj))))]) t9.heap) A) ([.ref x0] : List Value).toArray s0 0 0 A) (F0 mi 16 ls []) := by
  obtain ⟨hx, hb, hr, hml, hown, hts, hlocks, hin⟩ := id hC
  intro N
  induction N with
  | zero =>
    intro k x hmea
    omega
  | succ N ih =>
    intro k x hmea hk hw0 hx1 H locs hP hD hS ls hl
    refine lv_iload_n hx hb dX5_count_16 rfl (lv_at hl 2 rfl) ?_
    refine lv_aload_n hx hb dX5_count_17 rfl (lv_at hl 0 rfl) ?_
    refine va_get (D := D) (ci := 5) (v := .ref G) (C := RX5) (T := TX5) (N := 7) hx hb hts (fun w h => List.mem_cons_of_mem _ (inUX5 w h)) hown hK hP 0 rfl rfl 0 (by decide) (hts _ (List.mem_cons_of_mem _ mw_154)) (fun _ h9 => h9) rfl dX5_count_18 ?_
    refine va_getN (D := D) (ci := 0) (v := .int (nI n)) (C := RX0) (T := TX0) (N := 2) hx hb hts (fun w h => List.mem_cons_of_mem _ (inUX0 w h)) hown hK hP 1 rfl rfl 1 (by decide) (va_Nw.use rfl (hE.1 ("StrandMapper", 63, "StrandMapper$Bases", "used", "I", "StrandMapper") (by decide +kernel))) (fun _ h9 => h9) rfl dX5_count_21 ?_
    refine zz_ge (tgt := 51) hx hb dX5_count_24 (by decide) (by omega) (by omega) (fun c24 => ?_) (fun c24 => ?_)
    · skip
      refine lv_iload_n hx hb dX5_count_51 rfl (lv_at hl 1 rfl) ?_
      exact zIret hC hS () ⟨congrArg nI (by rw [hx1, show k = n by omega]), trivial⟩ hP (vp_nar_int _) dX5_count_52
    · skip
      refine lv_aload_n hx hb dX5_count_27 rfl (lv_at hl 0 rfl) ?_
      refine va_get (D := D) (ci := 5) (v := .ref G) (C := RX5) (T := TX5) (N := 7) hx hb hts (fun w h => List.mem_cons_of_mem _ (inUX5 w h)) hown hK hP 0 rfl rfl 0 (by decide) (hts _ (List.mem_cons_of_mem _ mw_154)) (fun _ h9 => h9) rfl dX5_count_28 ?_
      refine lv_iload_n hx hb dX5_count_31 rfl (lv_at hl 2 rfl) ?_
      refine lv_aload_n hx hb dX5_count_32 rfl (lv_at hl 0 rfl) ?_
      refine va_get (D := D) (ci := 5) (v := .ref rd) (C := RX5) (T := TX5) (N := 7) hx hb hts (fun w h => List.mem_cons_of_mem _ (inUX5 w h)) hown hK hP 0 rfl rfl 2 (by decide) (hts _ (List.mem_cons_of_mem _ mw_156)) (fun _ h9 => h9) rfl dX5_count_33 ?_
      refine zCi (is := [1, 2, 3, 4]) (wf := (fun (uu : Unit) => ([(G, .inr (0, [.ref ga, .int (nI n)])), (ga, .inl (cI, 96, .inl (fun jj => nI (g jj)))), (rd, .inr (0, [.ref ra, .int (nI w)])), (ra, .inl (cI, 24, .inl (fun jj => nI (r jj))))] : va_W))) (va_runV (As := [.int (nI k), .ref rd]) (rest := []) ⟨hx, hb, hml, hown, hts⟩ (k_holdsAt l D cI cC  G ga n rd ra w k g r (by omega) (by omega) (by omega) hg hr3 H.size) (cwV 2 hts (zgood mw_265 mw_266 mw_267 mw_27 mw_268) rfl rfl rfl (by decide +kernel) ⟨Nat.le_of_ble_eq_true rfl, Nat.le_of_ble_eq_true rfl⟩) ⟨zBlind zE0_ok, va_recv hK hP (ci := 0) (q0 := 1) rfl rfl, zAt (av := [.ref G, .int (nI k), .ref rd]) zE0_ok hP hD hK hS hA trivial [1, 2, 3, 4] rfl (by decide)⟩ rfl rfl hl.1 rfl (lv_room (Nat.le_of_ble_eq_true rfl)) dX5_count_36 ⟨Nat.zero_le _, Nat.zero_le _⟩) hP hD hS hA rfl (fun _ => rfl) (fun r36 u36 H locs w36 hP hD hS => ?_)
      obtain ⟨rfl, w36⟩ := w36
      have hP : va_P D vwCl [(x0, .inr (5, [.ref G, .ref S, .ref rd, .ref td, .ref la, .ref sp, .int (nI dn)])), (G, .inr (0, [.ref ga, .int (nI n)])), (ga, .inl (cI, 96, .inl (fun jj => nI (g jj)))), (rd, .inr (0, [.ref ra, .int (nI w)])), (ra, .inl (cI, 24, .inl (fun jj => nI (r jj))))] H := hP
      have hD : va_D A [(x0, .inr (5, [.ref G, .ref S, .ref rd, .ref td, .ref la, .ref sp, .int (nI dn)])), (G, .inr (0, [.ref ga, .int (nI n)])), (ga, .inl (cI, 96, .inl (fun jj => nI (g jj)))), (rd, .inr (0, [.ref ra, .int (nI w)])), (ra, .inl (cI, 24, .inl (fun jj => nI (r jj))))] := hD
      refine zz_eqb (tgt := 45) hx hb dX5_count_39 (by decide) (fun c39 => ?_) (fun c39 => ?_)
      · skip
        refine lv_iinc (v := nI (k + 1)) (lv' := [(2, .int (nI (k + 1))), (0, .ref x0), (1, .int (nI x))]) hx hb dX5_count_45 hl (k := 2) rfl (zincE (by omega)) (by decide) rfl (fun ls hl => ?_)
        refine lv_goto (tgt := 16) hx hb dX5_count_48 (by decide) ?_
        exact ih (k + 1) x (by omega) (by omega) hw0 (by rw [zcnt_f (by simp only [decide_eq_true_eq]; exact fun q => c39 q.2)]; omega) _ _ hP hD hS ls (lv_sub hl [1, 2, 0] rfl)
      · skip
        refine lv_iinc (v := nI (x + 1)) (lv' := [(1, .int (nI (x + 1))), (0, .ref x0), (2, .int (nI k))]) hx hb dX5_count_42 hl (k := 1) rfl (zincE (by omega)) (by decide) rfl (fun ls hl => ?_)
        refine lv_iinc (v := nI (k + 1)) (lv' := [(2, .int (nI (k + 1))), (1, .int (nI (x + 1))), (0, .ref x0)]) hx hb dX5_count_45 hl (k := 2) rfl (zincE (by omega)) (by decide) rfl (fun ls hl => ?_)
        refine lv_goto (tgt := 16) hx hb dX5_count_48 (by decide) ?_
        exact ih (k + 1) (x + 1) (by omega) (by omega) hw0 (by rw [zcnt_t (by simpa using ⟨hw0, c39⟩)]; omega) _ _ hP hD hS ls (lv_sub hl [2, 1, 0] rfl)
set_option maxHeartbeats 4000000 in
set_option maxRecDepth 100000 in
theorem f_count (l : Launch) (D : va_G) (cI cC : ClassId)  (x0 G S rd td la sp dn : Nat) (ga n : Nat) (ra w : Nat) (g : Nat → Nat) (r : Nat → Nat) (hn : n ≤ 96) (hg : ∀ i, g i ≤ 4) (hw : w ≤ 24) (hr3 : ∀ i, i < w → r i ≤ 3) (sz : Nat) : Met l yX5_count wsX5_count ({ frames := 2, cells := 0, slots := 0, locals := 47 } : Room) (zPre zEn D vwCl [(cI, .int), (cC, .char)] [.ref x0] [(x0, .inr (5, [.ref G, .ref S, .ref rd, .ref td, .ref la, .ref sp, .int (nI dn)])), (G, .inr (0, [.ref ga, .int (nI n)])), (ga, .inl (cI, 96, .inl (fun jj => nI (g jj)))), (rd, .inr (0, [.ref ra, .int (nI w)])), (ra, .inl (cI, 24, .inl (fun jj => nI (r jj))))] sz) (va_Qi (fun (rv : Int32) (uu : Unit) => rv = nI (zcnt (fun p => decide (0 < w ∧ p + w ≤ n ∧ zmm g r p w = 0)) n) ∧ True) (fun (uu : Unit) t9 => va_P D vwCl ([(x0, .inr (5, [.ref G, .ref S, .ref rd, .ref td, .ref la, .ref sp, .int (nI dn)])), (G, .inr (0, [.ref ga, .int (nI n)])), (ga, .inl (cI, 96, .inl (fun jj => nI (g jj)))), (rd, .inr (0, [.ref ra, .int (nI w)])), (ra, .inl (cI, 24, .inl (fun jj => nI (r jj))))]) t9.heap) (va_A [(x0, .inr (5, [.ref G, .ref S, .ref rd, .ref td, .ref la, .ref sp, .int (nI dn)])), (G, .inr (0, [.ref ga, .int (nI n)])), (ga, .inl (cI, 96, .inl (fun jj => nI (g jj)))), (rd, .inr (0, [.ref ra, .int (nI w)])), (ra, .inl (cI, 24, .inl (fun jj => nI (r jj))))] sz)) 0 0 (va_A [(x0, .inr (5, [.ref G, .ref S, .ref rd, .ref td, .ref la, .ref sp, .int (nI dn)])), (G, .inr (0, [.ref ga, .int (nI n)])), (ga, .inl (cI, 96, .inl (fun jj => nI (g jj)))), (rd, .inr (0, [.ref ra, .int (nI w)])), (ra, .inl (cI, 24, .inl (fun jj => nI (r jj))))] sz) := by
  refine zMet (cc := cX5_count) (maxL := 3) (ret := (some .int)) (Qc := fun A => (va_Qi (fun (rv : Int32) (uu : Unit) => rv = nI (zcnt (fun p => decide (0 < w ∧ p + w ≤ n ∧ zmm g r p w = 0)) n) ∧ True) (fun (uu : Unit) t9 => va_P D vwCl ([(x0, .inr (5, [.ref G, .ref S, .ref rd, .ref td, .ref la, .ref sp, .int (nI dn)])), (G, .inr (0, [.ref ga, .int (nI n)])), (ga, .inl (cI, 96, .inl (fun jj => nI (g jj)))), (rd, .inr (0, [.ref ra, .int (nI w)])), (ra, .inl (cI, 24, .inl (fun jj => nI (r jj))))]) t9.heap) A)) (by decide) rfl (Nat.le_of_ble_eq_true rfl) ?_
  intro pr en s0 mi bl me co A hC hA hK hE H locs hP hD hS ls hl
  obtain ⟨hx, hb, hr, hml, hown, hts, hlocks, hin⟩ := id hC
  have hl : lv_has ls 3 [(0, .ref x0)] := hl
  refine lv_aload_n hx hb dX5_count_0 rfl (lv_at hl 0 rfl) ?_
  refine va_get (D := D) (ci := 5) (v := .ref rd) (C := RX5) (T := TX5) (N := 7) hx hb hts (fun w h => List.mem_cons_of_mem _ (inUX5 w h)) hown hK hP 0 rfl rfl 2 (by decide) (hts _ (List.mem_cons_of_mem _ mw_156)) (fun _ h9 => h9) rfl dX5_count_1 ?_
  refine va_getN (D := D) (ci := 0) (v := .int (nI w)) (C := RX0) (T := TX0) (N := 2) hx hb hts (fun w h => List.mem_cons_of_mem _ (inUX0 w h)) hown hK hP 3 rfl rfl 1 (by decide) (va_Nw.use rfl (hE.1 ("StrandMapper", 63, "StrandMapper$Bases", "used", "I", "StrandMapper") (by decide +kernel))) (fun _ h9 => h9) rfl dX5_count_4 ?_
  refine zz_ne0 (tgt := 12) hx hb dX5_count_7 (by decide) (by omega) (fun c7 => ?_) (fun c7 => ?_)
  · skip
    refine lv_iconst (v := nI 0) hx hb dX5_count_12 (by decide) ?_
    refine lv_istore_n (lv' := [(1, .int (nI 0)), (0, .ref x0)]) hx hb dX5_count_13 rfl hl (by decide) rfl (fun ls hl => ?_)
    refine lv_iconst (v := nI 0) hx hb dX5_count_14 (by decide) ?_
    refine lv_istore_n (lv' := [(2, .int (nI 0)), (1, .int (nI 0)), (0, .ref x0)]) hx hb dX5_count_15 rfl hl (by decide) rfl (fun ls hl => ?_)
    exact f_count_L16 l D cI cC  x0 G S rd td la sp dn ga n ra w g r hn hg hw hr3 hC hA hK hE _ 0 0 (Nat.lt_succ_self _) (Nat.zero_le _) (by omega) rfl _ _ hP hD hS ls (lv_sub hl [2, 1, 0] rfl)
  · skip
    refine lv_iconst (v := nI 0) hx hb dX5_count_10 (by decide) ?_
    exact zIret hC hS () ⟨congrArg nI (zcnt_none n (fun p _ => by simp only [decide_eq_true_eq]; omega)).symm, trivial⟩ hP (vp_nar_int _) dX5_count_11
set_option maxHeartbeats 4000000 in
set_option maxRecDepth 100000 in
theorem f_hits (l : Launch) (D : va_G) (cI cC : ClassId)  (x0 G S rd td la sp dn : Nat) (fd tx pA sA mA am ag : Nat) (pq : Int32)  (sz : Nat) : Met l yX5_hits wsX5_hits ({ frames := 0, cells := 0, slots := 0, locals := 0 } : Room) (zPre zEn D vwCl [(cI, .int), (cC, .char)] [.ref x0] [(x0, .inr (5, [.ref G, .ref S, .ref rd, .ref td, .ref la, .ref sp, .int (nI dn)])), (la, .inr (3, [.ref fd, .ref tx])), (fd, .inr (1, [.ref pA, .ref sA, .ref mA, .int (nI am), .int pq, .int (nI ag)]))] sz) (va_Qi (fun (rv : Int32) (uu : Unit) => rv = nI am ∧ True) (fun (uu : Unit) t9 => va_P D vwCl ([(x0, .inr (5, [.ref G, .ref S, .ref rd, .ref td, .ref la, .ref sp, .int (nI dn)])), (la, .inr (3, [.ref fd, .ref tx])), (fd, .inr (1, [.ref pA, .ref sA, .ref mA, .int (nI am), .int pq, .int (nI ag)]))]) t9.heap) (va_A [(x0, .inr (5, [.ref G, .ref S, .ref rd, .ref td, .ref la, .ref sp, .int (nI dn)])), (la, .inr (3, [.ref fd, .ref tx])), (fd, .inr (1, [.ref pA, .ref sA, .ref mA, .int (nI am), .int pq, .int (nI ag)]))] sz)) 0 0 (va_A [(x0, .inr (5, [.ref G, .ref S, .ref rd, .ref td, .ref la, .ref sp, .int (nI dn)])), (la, .inr (3, [.ref fd, .ref tx])), (fd, .inr (1, [.ref pA, .ref sA, .ref mA, .int (nI am), .int pq, .int (nI ag)]))] sz) := by
  refine zMet (cc := cX5_hits) (maxL := 1) (ret := (some .int)) (Qc := fun A => (va_Qi (fun (rv : Int32) (uu : Unit) => rv = nI am ∧ True) (fun (uu : Unit) t9 => va_P D vwCl ([(x0, .inr (5, [.ref G, .ref S, .ref rd, .ref td, .ref la, .ref sp, .int (nI dn)])), (la, .inr (3, [.ref fd, .ref tx])), (fd, .inr (1, [.ref pA, .ref sA, .ref mA, .int (nI am), .int pq, .int (nI ag)]))]) t9.heap) A)) (by decide) rfl (Nat.le_of_ble_eq_true rfl) ?_
  intro pr en s0 mi bl me co A hC hA hK hE H locs hP hD hS ls hl
  obtain ⟨hx, hb, hr, hml, hown, hts, hlocks, hin⟩ := id hC
  have hl : lv_has ls 1 [(0, .ref x0)] := hl
  refine lv_aload_n hx hb dX5_hits_0 rfl (lv_at hl 0 rfl) ?_
  refine va_get (D := D) (ci := 5) (v := .ref la) (C := RX5) (T := TX5) (N := 7) hx hb hts (fun w h => List.mem_cons_of_mem _ (inUX5 w h)) hown hK hP 0 rfl rfl 4 (by decide) (hts _ (List.mem_cons_of_mem _ mw_158)) (fun _ h9 => h9) rfl dX5_hits_1 ?_
  refine va_getN (D := D) (ci := 3) (v := .ref fd) (C := RX3) (T := TX3) (N := 2) hx hb hts (fun w h => List.mem_cons_of_mem _ (inUX3 w h)) hown hK hP 1 rfl rfl 0 (by decide) (va_Nw.use rfl (hE.1 ("StrandMapper", 101, "StrandMapper$Mapping", "found", "LStrandMapper$HitList;", "StrandMapper") (by decide +kernel))) (fun _ h9 => h9) rfl dX5_hits_4 ?_
  refine va_getN (D := D) (ci := 1) (v := .int (nI am)) (C := RX1) (T := TX1) (N := 6) hx hb hts (fun w h => List.mem_cons_of_mem _ (inUX1 w h)) hown hK hP 2 rfl rfl 3 (by decide) (va_Nw.use rfl (hE.1 ("StrandMapper", 105, "StrandMapper$HitList", "amount", "I", "StrandMapper") (by decide +kernel))) (fun _ h9 => h9) rfl dX5_hits_7 ?_
  exact zIret hC hS () ⟨rfl, trivial⟩ hP (vp_nar_int _) dX5_hits_10
set_option maxHeartbeats 4000000 in
set_option maxRecDepth 100000 in
theorem f_size (l : Launch) (D : va_G) (cI cC : ClassId)  (x0 G S rd td la sp dn : Nat) (fd tx ca le : Nat)  (sz : Nat) : Met l yX5_size wsX5_size ({ frames := 0, cells := 0, slots := 0, locals := 0 } : Room) (zPre zEn D vwCl [(cI, .int), (cC, .char)] [.ref x0] [(x0, .inr (5, [.ref G, .ref S, .ref rd, .ref td, .ref la, .ref sp, .int (nI dn)])), (la, .inr (3, [.ref fd, .ref tx])), (tx, .inr (2, [.ref ca, .int (nI le)]))] sz) (va_Qi (fun (rv : Int32) (uu : Unit) => rv = nI le ∧ True) (fun (uu : Unit) t9 => va_P D vwCl ([(x0, .inr (5, [.ref G, .ref S, .ref rd, .ref td, .ref la, .ref sp, .int (nI dn)])), (la, .inr (3, [.ref fd, .ref tx])), (tx, .inr (2, [.ref ca, .int (nI le)]))]) t9.heap) (va_A [(x0, .inr (5, [.ref G, .ref S, .ref rd, .ref td, .ref la, .ref sp, .int (nI dn)])), (la, .inr (3, [.ref fd, .ref tx])), (tx, .inr (2, [.ref ca, .int (nI le)]))] sz)) 0 0 (va_A [(x0, .inr (5, [.ref G, .ref S, .ref rd, .ref td, .ref la, .ref sp, .int (nI dn)])), (la, .inr (3, [.ref fd, .ref tx])), (tx, .inr (2, [.ref ca, .int (nI le)]))] sz) := by
  refine zMet (cc := cX5_size) (maxL := 1) (ret := (some .int)) (Qc := fun A => (va_Qi (fun (rv : Int32) (uu : Unit) => rv = nI le ∧ True) (fun (uu : Unit) t9 => va_P D vwCl ([(x0, .inr (5, [.ref G, .ref S, .ref rd, .ref td, .ref la, .ref sp, .int (nI dn)])), (la, .inr (3, [.ref fd, .ref tx])), (tx, .inr (2, [.ref ca, .int (nI le)]))]) t9.heap) A)) (by decide) rfl (Nat.le_of_ble_eq_true rfl) ?_
  intro pr en s0 mi bl me co A hC hA hK hE H locs hP hD hS ls hl
  obtain ⟨hx, hb, hr, hml, hown, hts, hlocks, hin⟩ := id hC
  have hl : lv_has ls 1 [(0, .ref x0)] := hl
  refine lv_aload_n hx hb dX5_size_0 rfl (lv_at hl 0 rfl) ?_
  refine va_get (D := D) (ci := 5) (v := .ref la) (C := RX5) (T := TX5) (N := 7) hx hb hts (fun w h => List.mem_cons_of_mem _ (inUX5 w h)) hown hK hP 0 rfl rfl 4 (by decide) (hts _ (List.mem_cons_of_mem _ mw_158)) (fun _ h9 => h9) rfl dX5_size_1 ?_
  refine va_getN (D := D) (ci := 3) (v := .ref tx) (C := RX3) (T := TX3) (N := 2) hx hb hts (fun w h => List.mem_cons_of_mem _ (inUX3 w h)) hown hK hP 1 rfl rfl 1 (by decide) (va_Nw.use rfl (hE.1 ("StrandMapper", 92, "StrandMapper$Mapping", "text", "LStrandMapper$MapText;", "StrandMapper") (by decide +kernel))) (fun _ h9 => h9) rfl dX5_size_4 ?_
  refine va_getN (D := D) (ci := 2) (v := .int (nI le)) (C := RX2) (T := TX2) (N := 2) hx hb hts (fun w h => List.mem_cons_of_mem _ (inUX2 w h)) hown hK hP 2 rfl rfl 1 (by decide) (va_Nw.use rfl (hE.1 ("StrandMapper", 123, "StrandMapper$MapText", "written", "I", "StrandMapper") (by decide +kernel))) (fun _ h9 => h9) rfl dX5_size_7 ?_
  exact zIret hC hS () ⟨rfl, trivial⟩ hP (vp_nar_int _) dX5_size_10
set_option maxHeartbeats 4000000 in
set_option maxRecDepth 100000 in
theorem f_mappings (l : Launch) (D : va_G) (cI cC : ClassId)  (x0 G S rd td la sp dn : Nat)  (sz : Nat) : Met l yX5_mappings wsX5_mappings ({ frames := 0, cells := 0, slots := 0, locals := 0 } : Room) (zPre zEn D vwCl [(cI, .int), (cC, .char)] [.ref x0] [(x0, .inr (5, [.ref G, .ref S, .ref rd, .ref td, .ref la, .ref sp, .int (nI dn)]))] sz) (va_Qi (fun (rv : Int32) (uu : Unit) => rv = nI dn ∧ True) (fun (uu : Unit) t9 => va_P D vwCl ([(x0, .inr (5, [.ref G, .ref S, .ref rd, .ref td, .ref la, .ref sp, .int (nI dn)]))]) t9.heap) (va_A [(x0, .inr (5, [.ref G, .ref S, .ref rd, .ref td, .ref la, .ref sp, .int (nI dn)]))] sz)) 0 0 (va_A [(x0, .inr (5, [.ref G, .ref S, .ref rd, .ref td, .ref la, .ref sp, .int (nI dn)]))] sz) := by
  refine zMet (cc := cX5_mappings) (maxL := 1) (ret := (some .int)) (Qc := fun A => (va_Qi (fun (rv : Int32) (uu : Unit) => rv = nI dn ∧ True) (fun (uu : Unit) t9 => va_P D vwCl ([(x0, .inr (5, [.ref G, .ref S, .ref rd, .ref td, .ref la, .ref sp, .int (nI dn)]))]) t9.heap) A)) (by decide) rfl (Nat.le_of_ble_eq_true rfl) ?_
  intro pr en s0 mi bl me co A hC hA hK hE H locs hP hD hS ls hl
  obtain ⟨hx, hb, hr, hml, hown, hts, hlocks, hin⟩ := id hC
  have hl : lv_has ls 1 [(0, .ref x0)] := hl
  refine lv_aload_n hx hb dX5_mappings_0 rfl (lv_at hl 0 rfl) ?_
  refine va_get (D := D) (ci := 5) (v := .int (nI dn)) (C := RX5) (T := TX5) (N := 7) hx hb hts (fun w h => List.mem_cons_of_mem _ (inUX5 w h)) hown hK hP 0 rfl rfl 6 (by decide) (hts _ (List.mem_cons_of_mem _ mw_160)) (fun _ h9 => h9) rfl dX5_mappings_1 ?_
  exact zIret hC hS () ⟨rfl, trivial⟩ hP (vp_nar_int _) dX5_mappings_4
set_option maxHeartbeats 4000000 in
set_option maxRecDepth 100000 in
theorem f_at (l : Launch) (D : va_G) (cI cC : ClassId)  (x0 G S rd td la sp dn : Nat) (fd tx ca le k : Nat) (ln : Nat → Nat) (hle : le ≤ 1500) (hk : k < le) (sz : Nat) : Met l yX5_at wsX5_at ({ frames := 0, cells := 0, slots := 0, locals := 0 } : Room) (zPre zEn D vwCl [(cI, .int), (cC, .char)] [.ref x0, .int (nI k)] [(x0, .inr (5, [.ref G, .ref S, .ref rd, .ref td, .ref la, .ref sp, .int (nI dn)])), (la, .inr (3, [.ref fd, .ref tx])), (tx, .inr (2, [.ref ca, .int (nI le)])), (ca, .inl (cC, 1500, .inl (fun jj => nI (ln jj))))] sz) (va_Qi (fun (rv : Int32) (uu : Unit) => rv = nI (ln k) ∧ True) (fun (uu : Unit) t9 => va_P D vwCl ([(x0, .inr (5, [.ref G, .ref S, .ref rd, .ref td, .ref la, .ref sp, .int (nI dn)])), (la, .inr (3, [.ref fd, .ref tx])), (tx, .inr (2, [.ref ca, .int (nI le)])), (ca, .inl (cC, 1500, .inl (fun jj => nI (ln jj))))]) t9.heap) (va_A [(x0, .inr (5, [.ref G, .ref S, .ref rd, .ref td, .ref la, .ref sp, .int (nI dn)])), (la, .inr (3, [.ref fd, .ref tx])), (tx, .inr (2, [.ref ca, .int (nI le)])), (ca, .inl (cC, 1500, .inl (fun jj => nI (ln jj))))] sz)) 0 0 (va_A [(x0, .inr (5, [.ref G, .ref S, .ref rd, .ref td, .ref la, .ref sp, .int (nI dn)])), (la, .inr (3, [.ref fd, .ref tx])), (tx, .inr (2, [.ref ca, .int (nI le)])), (ca, .inl (cC, 1500, .inl (fun jj => nI (ln jj))))] sz) := by
  refine zMet (cc := cX5_at) (maxL := 3) (ret := (some .int)) (Qc := fun A => (va_Qi (fun (rv : Int32) (uu : Unit) => rv = nI (ln k) ∧ True) (fun (uu : Unit) t9 => va_P D vwCl ([(x0, .inr (5, [.ref G, .ref S, .ref rd, .ref td, .ref la, .ref sp, .int (nI dn)])), (la, .inr (3, [.ref fd, .ref tx])), (tx, .inr (2, [.ref ca, .int (nI le)])), (ca, .inl (cC, 1500, .inl (fun jj => nI (ln jj))))]) t9.heap) A)) (by decide) rfl (Nat.le_of_ble_eq_true rfl) ?_
  intro pr en s0 mi bl me co A hC hA hK hE H locs hP hD hS ls hl
  obtain ⟨hx, hb, hr, hml, hown, hts, hlocks, hin⟩ := id hC
  have hl : lv_has ls 3 [(0, .ref x0), (1, .int (nI k))] := hl
  refine lv_aload_n hx hb dX5_at_0 rfl (lv_at hl 0 rfl) ?_
  refine va_get (D := D) (ci := 5) (v := .ref la) (C := RX5) (T := TX5) (N := 7) hx hb hts (fun w h => List.mem_cons_of_mem _ (inUX5 w h)) hown hK hP 0 rfl rfl 4 (by decide) (hts _ (List.mem_cons_of_mem _ mw_158)) (fun _ h9 => h9) rfl dX5_at_1 ?_
  refine va_getN (D := D) (ci := 3) (v := .ref tx) (C := RX3) (T := TX3) (N := 2) hx hb hts (fun w h => List.mem_cons_of_mem _ (inUX3 w h)) hown hK hP 1 rfl rfl 1 (by decide) (va_Nw.use rfl (hE.1 ("StrandMapper", 92, "StrandMapper$Mapping", "text", "LStrandMapper$MapText;", "StrandMapper") (by decide +kernel))) (fun _ h9 => h9) rfl dX5_at_4 ?_
  refine lv_astore_n (lv' := [(2, .ref tx), (0, .ref x0), (1, .int (nI k))]) hx hb dX5_at_7 rfl hl (by decide) rfl (fun ls hl => ?_)
  refine lv_iload_n hx hb dX5_at_8 rfl (lv_at hl 2 rfl) ?_
  refine zz_lt0 (tgt := 20) hx hb dX5_at_9 (by decide) (by omega) ?_
  refine lv_iload_n hx hb dX5_at_12 rfl (lv_at hl 2 rfl) ?_
  refine lv_aload_n hx hb dX5_at_13 rfl (lv_at hl 0 rfl) ?_
  refine va_getN (D := D) (ci := 2) (v := .int (nI le)) (C := RX2) (T := TX2) (N := 2) hx hb hts (fun w h => List.mem_cons_of_mem _ (inUX2 w h)) hown hK hP 2 rfl rfl 1 (by decide) (va_Nw.use rfl (hE.1 ("StrandMapper", 123, "StrandMapper$MapText", "written", "I", "StrandMapper") (by decide +kernel))) (fun _ h9 => h9) rfl dX5_at_14 ?_
  refine zz_lt (tgt := 24) hx hb dX5_at_17 (by decide) (by omega) (by omega) (fun c17 => ?_) (fun c17 => ?_)
  · skip
    refine lv_aload_n hx hb dX5_at_24 rfl (lv_at hl 0 rfl) ?_
    refine va_getN (D := D) (ci := 2) (v := .ref ca) (C := RX2) (T := TX2) (N := 2) hx hb hts (fun w h => List.mem_cons_of_mem _ (inUX2 w h)) hown hK hP 2 rfl rfl 0 (by decide) (va_Nw.use rfl (hE.1 ("StrandMapper", 126, "StrandMapper$MapText", "characters", "[C", "StrandMapper") (by decide +kernel))) (fun _ h9 => h9) rfl dX5_at_25 ?_
    refine lv_iload_n hx hb dX5_at_28 rfl (lv_at hl 2 rfl) ?_
    refine zz_cald (k := k) (f := ln) hx hb hK hP 3 1 rfl rfl (by omega) (by omega) dX5_at_29 ?_
    exact zIret hC hS () ⟨rfl, trivial⟩ hP (vp_nar_int _) dX5_at_30
  · skip
    exact absurd c17 (by omega)
set_option maxHeartbeats 4000000 in
set_option maxRecDepth 100000 in
theorem f_at0 (l : Launch) (D : va_G) (cI cC : ClassId)  (x0 G S rd td la sp dn : Nat) (fd tx ca le : Nat) (k : Int32) (hle : le ≤ 1500) (hbad : k < 0 ∨ nI le ≤ k) (sz : Nat) : Met l yX5_at wsX5_at ({ frames := 0, cells := 0, slots := 0, locals := 0 } : Room) (zPre zEn D vwCl [(cI, .int), (cC, .char)] [.ref x0, .int k] [(x0, .inr (5, [.ref G, .ref S, .ref rd, .ref td, .ref la, .ref sp, .int (nI dn)])), (la, .inr (3, [.ref fd, .ref tx])), (tx, .inr (2, [.ref ca, .int (nI le)]))] sz) (va_Qi (fun (rv : Int32) (uu : Unit) => rv = (-1) ∧ True) (fun (uu : Unit) t9 => va_P D vwCl ([(x0, .inr (5, [.ref G, .ref S, .ref rd, .ref td, .ref la, .ref sp, .int (nI dn)])), (la, .inr (3, [.ref fd, .ref tx])), (tx, .inr (2, [.ref ca, .int (nI le)]))]) t9.heap) (va_A [(x0, .inr (5, [.ref G, .ref S, .ref rd, .ref td, .ref la, .ref sp, .int (nI dn)])), (la, .inr (3, [.ref fd, .ref tx])), (tx, .inr (2, [.ref ca, .int (nI le)]))] sz)) 0 0 (va_A [(x0, .inr (5, [.ref G, .ref S, .ref rd, .ref td, .ref la, .ref sp, .int (nI dn)])), (la, .inr (3, [.ref fd, .ref tx])), (tx, .inr (2, [.ref ca, .int (nI le)]))] sz) := by
  refine zMet (cc := cX5_at) (maxL := 3) (ret := (some .int)) (Qc := fun A => (va_Qi (fun (rv : Int32) (uu : Unit) => rv = (-1) ∧ True) (fun (uu : Unit) t9 => va_P D vwCl ([(x0, .inr (5, [.ref G, .ref S, .ref rd, .ref td, .ref la, .ref sp, .int (nI dn)])), (la, .inr (3, [.ref fd, .ref tx])), (tx, .inr (2, [.ref ca, .int (nI le)]))]) t9.heap) A)) (by decide) rfl (Nat.le_of_ble_eq_true rfl) ?_
  intro pr en s0 mi bl me co A hC hA hK hE H locs hP hD hS ls hl
  obtain ⟨hx, hb, hr, hml, hown, hts, hlocks, hin⟩ := id hC
  have hl : lv_has ls 3 [(0, .ref x0), (1, .int k)] := hl
  refine lv_aload_n hx hb dX5_at_0 rfl (lv_at hl 0 rfl) ?_
  refine va_get (D := D) (ci := 5) (v := .ref la) (C := RX5) (T := TX5) (N := 7) hx hb hts (fun w h => List.mem_cons_of_mem _ (inUX5 w h)) hown hK hP 0 rfl rfl 4 (by decide) (hts _ (List.mem_cons_of_mem _ mw_158)) (fun _ h9 => h9) rfl dX5_at_1 ?_
  refine va_getN (D := D) (ci := 3) (v := .ref tx) (C := RX3) (T := TX3) (N := 2) hx hb hts (fun w h => List.mem_cons_of_mem _ (inUX3 w h)) hown hK hP 1 rfl rfl 1 (by decide) (va_Nw.use rfl (hE.1 ("StrandMapper", 92, "StrandMapper$Mapping", "text", "LStrandMapper$MapText;", "StrandMapper") (by decide +kernel))) (fun _ h9 => h9) rfl dX5_at_4 ?_
  refine lv_astore_n (lv' := [(2, .ref tx), (0, .ref x0), (1, .int k)]) hx hb dX5_at_7 rfl hl (by decide) rfl (fun ls hl => ?_)
  refine lv_iload_n hx hb dX5_at_8 rfl (lv_at hl 2 rfl) ?_
  refine lv_if_lt (tgt := 20) hx hb dX5_at_9 (by decide) (fun c9 => ?_) (fun c9 => ?_)
  · skip
    refine lv_iconst (v := (-1)) hx hb dX5_at_20 (by decide) ?_
    refine lv_goto (tgt := 30) hx hb dX5_at_21 (by decide) ?_
    exact zIret hC hS () ⟨rfl, trivial⟩ hP (vp_nar_int _) dX5_at_30
  · skip
    refine lv_iload_n hx hb dX5_at_12 rfl (lv_at hl 2 rfl) ?_
    refine lv_aload_n hx hb dX5_at_13 rfl (lv_at hl 0 rfl) ?_
    refine va_getN (D := D) (ci := 2) (v := .int (nI le)) (C := RX2) (T := TX2) (N := 2) hx hb hts (fun w h => List.mem_cons_of_mem _ (inUX2 w h)) hown hK hP 2 rfl rfl 1 (by decide) (va_Nw.use rfl (hE.1 ("StrandMapper", 123, "StrandMapper$MapText", "written", "I", "StrandMapper") (by decide +kernel))) (fun _ h9 => h9) rfl dX5_at_14 ?_
    refine lv_icmp_lt (tgt := 24) hx hb dX5_at_17 (by decide) (fun c17 => ?_) (fun c17 => ?_)
    · skip
      exact absurd hbad (fun q => by rcases q with q | q; exact c9 q; exact absurd c17 (Int32.not_lt.mpr q))
    · skip
      refine lv_iconst (v := (-1)) hx hb dX5_at_20 (by decide) ?_
      refine lv_goto (tgt := 30) hx hb dX5_at_21 (by decide) ?_
      exact zIret hC hS () ⟨rfl, trivial⟩ hP (vp_nar_int _) dX5_at_30
