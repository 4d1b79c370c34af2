theorem u2_id (B : gA) (k t : Nat) : u2 B k t (B k t) = B := by
  funext a b
  simp only [u2]
  by_cases h : a = k ∧ b = t
  · rw [if_pos h, h.1, h.2]
  · rw [if_neg h]
def hvc (A : gA) (h v : Int32) : Nat → Int32 × gA
  | 0 => (0, A)
  | i + 1 => if eqb (A 6 (ix (30 * h + nI i))) 0 = true then hvc A h v i else if (hvc A h v i).2 3 (ix (A 6 (ix (30 * h + nI i)))) < v then hvc A h v i else ((hvc A h v i).1 + v, u2 (hvc A h v i).2 3 (ix (A 6 (ix (30 * h + nI i)))) ((hvc A h v i).2 3 (ix (A 6 (ix (30 * h + nI i)))) - v))
theorem hvc_o {A : gA} {h v : Int32} : ∀ {i : Nat} {x : Int32} {B : gA}, hvc A h v i = (x, B) → ∀ k, k ≠ 3 → B k = A k
  | 0, x, B, e, k, hk => by cases e; rfl
  | i + 1, x, B, e, k, hk => by
    have h1 := hvc_o (A := A) (h := h) (v := v) (i := i) (x := (hvc A h v i).1) (B := (hvc A h v i).2) rfl k hk
    simp only [hvc] at e
    split at e
    · rw [← h1, e]
    · split at e
      · rw [← h1, e]
      · cases e
        rw [u2_ne hk]
        exact h1
theorem hvc_2 (A : gA) (h v : Int32) : ∀ i, (hvc A h v i).2 = (hvl A h v i).2
  | 0 => rfl
  | i + 1 => by
    have ih := hvc_2 A h v i
    simp only [hvc, hvl, ih]
    split
    · exact ih
    · split
      · exact ih
      · rfl
def sp_harvc (A : gA) (s v : Int32) : Int64 × gA := if isSh s = true then (if v < 1 then (-9223372036854775808, A) else if eqb (wRw A s) 0 = true then ((hvc A (A 0 (ix s)) v (ix (A 5 (ix (A 0 (ix s)))))).1.toInt64, (hvc A (A 0 (ix s)) v (ix (A 5 (ix (A 0 (ix s)))))).2) else rfj A (wRw A s)) else (-9223372036854775808, A)
theorem harvc_2 (A : gA) (s v : Int32) : (sp_harvc A s v).2 = (sp_harvest A s v).2 := by
  unfold sp_harvc sp_harvest
  split
  · split
    · rfl
    · split
      · exact hvc_2 _ _ _ _
      · rfl
  · rfl
set_option maxHeartbeats 4000000 in
set_option maxRecDepth 100000 in
theorem c_X3_careFor (l : Launch) (E : gE) (b0 : Nat) (G : gG) (x : Nat) (aa : Nat → Nat) (A0 : gA) (nn : Nat) (hS : SW E x aa A0 nn G) (hn : nn < 600) (h n : Int32) (hh : tv nn h) (hh0 : eqb h 0 = false) (hk : tv nn (A0 11 (ix h))) (hk0 : eqb (A0 11 (ix h)) 0 = false) (hso : eqb (A0 2 (ix (A0 11 (ix h)))) 4 = true) (h50 : ¬ A0 5 (ix h) < 0) : gM l yX3_careFor cX3_careFor 6 (some .int) 0 0 0 E b0 G [.ref (aa (4 * ix (A0 11 (ix h)))), .ref (aa (4 * ix h + 1)), .int n] (pI (fun v9 G1 => v9 = (sp_tended A0 h n).1 ∧ SW E x aa (sp_tended A0 h n).2 nn G1)) := by
  refine gM.of (by decide +kernel) (Nat.le_of_ble_eq_true rfl) ?_
  intro pP eP sP mI bP meth cP ls hx hb hr hml hown hlocks hnm hts hK hI hl
  have hl : lv_has ls 6 [(0, .ref (aa (4 * ix (A0 11 (ix h))))), (1, .ref (aa (4 * ix h + 1))), (2, .int n)] := hl
  have hown : sP.vm.findClass RX3 = some mI.cls := hown
  refine lv_iconst (v := 0) hx hb dX3_careFor_0 (by decide) ?_
  refine lv_istore_n (lv' := [(3, .int 0), (0, .ref (aa (4 * ix (A0 11 (ix h))))), (1, .ref (aa (4 * ix h + 1))), (2, .int n)]) hx hb dX3_careFor_1 rfl hl (by decide) rfl (fun ls hl => ?_)
  refine lv_iconst (v := 0) hx hb dX3_careFor_2 (by decide) ?_
  refine lv_istore (lv' := [(4, .int 0), (3, .int 0), (0, .ref (aa (4 * ix (A0 11 (ix h))))), (1, .ref (aa (4 * ix h + 1))), (2, .int n)]) hx hb dX3_careFor_3 hl (by decide) rfl (fun ls hl => ?_)
  have key : ∀ (j : Nat) (i : Nat) (mny : Int32) (A : gA) (G1 : gG) (H1 : Heap) (L1 : List Loc) (ls : Array Slot), i + j = ix (A0 5 (ix h)) → tdl A0 h n i = (mny, A) → SW E x aa A nn G1 → gI E.1 b0 G sP.heap G1 H1 L1 → lv_has ls 6 [(4, .int (nI i)), (3, .int mny), (0, .ref (aa (4 * ix (A0 11 (ix h))))), (1, .ref (aa (4 * ix h + 1))), (2, .int n)] → W pP l eP (rmL 0 0 0) sP mI [.ref (aa (4 * ix (A0 11 (ix h)))), .ref (aa (4 * ix h + 1)), .int n].toArray bP meth cP H1 L1 0 0 (MQ bP (gQ E b0 G (pI (fun v9 G1 => v9 = (sp_tended A0 h n).1 ∧ SW E x aa (sp_tended A0 h n).2 nn G1))) [.ref (aa (4 * ix (A0 11 (ix h)))), .ref (aa (4 * ix h + 1)), .int n].toArray sP 0 0 (fun q => b0 ≤ q)) (F0 mI 5 ls []) := by
    intro j
    induction j with
    | zero =>
      intro i mny A G1 H1 L1 ls hki hT hS hI hl
      have o : ∀ k, k ≠ 3 → A k = A0 k := tdl_o hT
      have h5 : ¬ A 5 (ix h) < 0 := by rw [o 5 (by decide)]; exact h50
      have hL := hS.len30 hn hh
      have eL : ix (A 5 (ix h)) = ix (A0 5 (ix h)) := by rw [o 5 (by decide)]
      have h6 : A 6 = A0 6 := o 6 (by decide)
      have hso4 : eqb (A 2 (ix (A0 11 (ix h)))) 4 = true := by rw [o 2 (by decide)]; exact hso
      have hlt : ¬ nI i < A 5 (ix h) := by rw [hL.2 i (by omega)]; omega
      refine lv_iload hx hb dX3_careFor_5 (lv_at hl 0 rfl) ?_
      refine lv_aload_n hx hb dX3_careFor_7 rfl (lv_at hl 3 rfl) ?_
      refine g_alen hx hb hK hI 2 (hS.rw' hn hh hh0 h5) rfl (nIix h5) dX3_careFor_8 ?_
      refine lv_icmp_ge (tgt := 43) hx hb dX3_careFor_9 (by decide) (fun _ => ?_) (fun c_1 => by have c_1 := Int32.not_le.mp c_1; first | exact absurd hlt c_1 | exact absurd c_1 hlt)
      refine lv_iload_n hx hb dX3_careFor_43 rfl (lv_at hl 1 rfl) ?_
      refine lv_aload_n hx hb dX3_careFor_44 rfl (lv_at hl 2 rfl) ?_
      refine g_get (index := 15) (ci := 3) hx hb hts inlX3 hown hK hI (((hS.at hn hk hk0)).trans (congrArg some (thc_4 hso4))) rfl 0 (by decide) m_fl_X3_15 (u_same (hts _ m_sf_X3_care)) rfl dX3_careFor_45 ?_
      refine lv_iadd hx hb dX3_careFor_48 ?_
      have e9 : sp_tended A0 h n = ((mny + (A 3 (ix (A0 11 (ix h))))), A) := by simp only [sp_tended, eqb43 hso, reduceIte, Bool.false_eq_true, not_true_eq_false, not_false_eq_true, ite_self, show ix (A0 5 (ix h)) = i by omega, hT]
      exact g_iret hx hb hr hlocks hI ⟨_, rfl, by rw [e9], by rw [e9]; exact hS⟩ dX3_careFor_49 (Nat.le_of_ble_eq_true rfl) (Nat.le_of_ble_eq_true rfl)
    | succ j ih =>
      intro i mny A G1 H1 L1 ls hki hT hS hI hl
      have o : ∀ k, k ≠ 3 → A k = A0 k := tdl_o hT
      have h5 : ¬ A 5 (ix h) < 0 := by rw [o 5 (by decide)]; exact h50
      have hL := hS.len30 hn hh
      have eL : ix (A 5 (ix h)) = ix (A0 5 (ix h)) := by rw [o 5 (by decide)]
      have h6 : A 6 = A0 6 := o 6 (by decide)
      have hso4 : eqb (A 2 (ix (A0 11 (ix h)))) 4 = true := by rw [o 2 (by decide)]; exact hso
      have hlt : nI i < A 5 (ix h) := by rw [hL.2 i (by omega)]; omega
      have hib := inb_i h5 (show i < ix (A 5 (ix h)) by omega) hL.1
      refine lv_iload hx hb dX3_careFor_5 (lv_at hl 0 rfl) ?_
      refine lv_aload_n hx hb dX3_careFor_7 rfl (lv_at hl 3 rfl) ?_
      refine g_alen hx hb hK hI 2 (hS.rw' hn hh hh0 h5) rfl (nIix h5) dX3_careFor_8 ?_
      refine lv_icmp_ge (tgt := 43) hx hb dX3_careFor_9 (by decide) (fun c_2 => by have c_2 := Int32.not_lt.mpr c_2; first | exact absurd hlt c_2 | exact absurd c_2 hlt) (fun _ => ?_)
      refine lv_aload_n hx hb dX3_careFor_12 rfl (lv_at hl 3 rfl) ?_
      refine lv_iload hx hb dX3_careFor_13 (lv_at hl 0 rfl) ?_
      rcases btf (eqb (A 6 (ix ((30 * h) + (nI i)))) 0) with h_3 | h_3
      · have z_4 := fun lo hi => fit_0 (A := A) lo hi h_3
        have t_5 : tv nn (A 6 (ix ((30 * h) + (nI i)))) := (hS.tsl hn hh h5 hib)
        refine g_aald hx hb hK hI 2 (hS.rw' hn hh hh0 h5) rfl (hS.slin hn hh h5 hib) dX3_careFor_15 ?_
        refine W.eq (g2 := F0 mI 16 ls [.null]) (by rw [show rwf aa A (ix h) (Int32.toNatClampNeg (nI i)) = adr aa (A 6 (ix ((30 * h) + (nI i)))) from hS.slv hn hh h5 hib, adr_n h_3]; rfl) ?_
        refine lv_astoreN (lv' := [(5, .null), (4, .int (nI i)), (3, .int mny), (0, .ref (aa (4 * ix (A0 11 (ix h))))), (1, .ref (aa (4 * ix h + 1))), (2, .int n)]) hx hb dX3_careFor_16 hl (by decide) rfl (fun ls hl => ?_)
        refine lv_aloadN hx hb dX3_careFor_18 (lv_at hl 0 rfl) ?_
        refine lv_ifnullN (tgt := 37) hx hb dX3_careFor_20 (by decide) ?_
        refine lv_iinc (v := ((nI i) + 1)) (lv' := [(4, .int ((nI i) + 1)), (5, .null), (3, .int mny), (0, .ref (aa (4 * ix (A0 11 (ix h))))), (1, .ref (aa (4 * ix h + 1))), (2, .int n)]) hx hb dX3_careFor_37 hl (k := 1) rfl rfl (by decide) rfl (fun ls hl => ?_)
        refine lv_goto (tgt := 5) hx hb dX3_careFor_40 (by decide) ?_
        have e9 : tdl A0 h n (i + 1) = (mny, A) := by simp only [tdl, hT, ← h6, h_3, z_4, reduceIte, Bool.false_eq_true, not_true_eq_false, not_false_eq_true, ite_self, Int32.add_zero, u2_id]
        rw [nI_1] at hl
        exact ih (i + 1) _ _ _ _ _ ls (by omega) e9 hS hI (lv_sub hl [0, 2, 3, 4, 5] rfl)
      · have _ := 0
        have t_6 : tv nn (A 6 (ix ((30 * h) + (nI i)))) := (hS.tsl hn hh h5 hib)
        have f_7 := hS.fsl hn hh hh0 h5 hib
        refine g_aald hx hb hK hI 2 (hS.rw' hn hh hh0 h5) rfl (hS.slin hn hh h5 hib) dX3_careFor_15 ?_
        refine W.eq (g2 := F0 mI 16 ls [.ref (aa (4 * ix (A 6 (ix ((30 * h) + (nI i))))))]) (by rw [show rwf aa A (ix h) (Int32.toNatClampNeg (nI i)) = adr aa (A 6 (ix ((30 * h) + (nI i)))) from hS.slv hn hh h5 hib, adr_s h_3]; rfl) ?_
        refine lv_astore (lv' := [(5, .ref (aa (4 * ix (A 6 (ix ((30 * h) + (nI i))))))), (4, .int (nI i)), (3, .int mny), (0, .ref (aa (4 * ix (A0 11 (ix h))))), (1, .ref (aa (4 * ix h + 1))), (2, .int n)]) hx hb dX3_careFor_16 hl (by decide) rfl (fun ls hl => ?_)
        refine lv_aload hx hb dX3_careFor_18 (lv_at hl 0 rfl) ?_
        refine lv_ifnull hx hb dX3_careFor_20 ?_
        refine lv_aload hx hb dX3_careFor_23 (lv_at hl 0 rfl) ?_
        refine lv_dup hx hb dX3_careFor_25 rfl ?_
        rcases fit_2 (A := A) (k := 0) (m := 1) (by decide) h_3 f_7 with h_8 | h_8
        · have _ := 0
          refine g_get (index := 9) (ci := 4) hx hb hts inlX4 hown hK hI (((hS.at hn t_6 h_3)).trans (congrArg some (thc_0 h_8))) rfl 1 (by decide) m_fl_X3_9 (fun _ h9 => h9) rfl dX3_careFor_26 ?_
          refine lv_iload_n hx hb dX3_careFor_29 rfl (lv_at hl 5 rfl) ?_
          refine lv_iadd hx hb dX3_careFor_30 ?_
          refine g_put (index := 9) (ci := 4) hx hb hts inlX4 tyX4 tyX4_ok nmX4 hown hK hI (((hS.at hn t_6 h_3)).trans (congrArg some (thc_0 h_8))) rfl 1 (by decide) m_fl_X3_9 (fun _ h9 => h9) rfl rfl rfl (Nat.le_of_ble_eq_true rfl) dX3_careFor_31 (fun H1 L1 hI => ?_)
          have hS := SW.p34 hS 3 (by decide) (ix (A 6 (ix ((30 * h) + (nI i))))) (t_6.pos hn h_3) (t_6.ixle hn).1 ((A 3 (ix (A 6 (ix ((30 * h) + (nI i)))))) + n) (p34y_0_3 h_8)
          refine W.eq (g2 := F0 mI 34 ls []) rfl ?_
          refine lv_iinc (v := (mny + 1)) (lv' := [(3, .int (mny + 1)), (5, .ref (aa (4 * ix (A 6 (ix ((30 * h) + (nI i))))))), (4, .int (nI i)), (0, .ref (aa (4 * ix (A0 11 (ix h))))), (1, .ref (aa (4 * ix h + 1))), (2, .int n)]) hx hb dX3_careFor_34 hl (k := 2) rfl rfl (by decide) rfl (fun ls hl => ?_)
          refine lv_iinc (v := ((nI i) + 1)) (lv' := [(4, .int ((nI i) + 1)), (3, .int (mny + 1)), (5, .ref (aa (4 * ix (A 6 (ix ((30 * h) + (nI i))))))), (0, .ref (aa (4 * ix (A0 11 (ix h))))), (1, .ref (aa (4 * ix h + 1))), (2, .int n)]) hx hb dX3_careFor_37 hl (k := 2) rfl rfl (by decide) rfl (fun ls hl => ?_)
          refine lv_goto (tgt := 5) hx hb dX3_careFor_40 (by decide) ?_
          have e9 : tdl A0 h n (i + 1) = ((mny + 1), (u2 A 3 (ix (A 6 (ix ((30 * h) + (nI i))))) ((A 3 (ix (A 6 (ix ((30 * h) + (nI i)))))) + n))) := by simp only [tdl, hT, ← h6, h_3, h_8, reduceIte, Bool.false_eq_true, not_true_eq_false, not_false_eq_true, ite_self, Int32.add_zero, u2_id]
          rw [nI_1] at hl
          exact ih (i + 1) _ _ _ _ _ ls (by omega) e9 hS hI (lv_sub hl [0, 1, 3, 4, 5] rfl)
        · have _ := 0
          refine g_get (index := 9) (ci := 1) hx hb hts inlX1 hown hK hI (((hS.at hn t_6 h_3)).trans (congrArg some (thc_1 h_8))) rfl 0 (by decide) m_fl_X3_9 (fun _ h9 => h9) rfl dX3_careFor_26 ?_
          refine lv_iload_n hx hb dX3_careFor_29 rfl (lv_at hl 5 rfl) ?_
          refine lv_iadd hx hb dX3_careFor_30 ?_
          refine g_put (index := 9) (ci := 1) hx hb hts inlX1 tyX1 tyX1_ok nmX1 hown hK hI (((hS.at hn t_6 h_3)).trans (congrArg some (thc_1 h_8))) rfl 0 (by decide) m_fl_X3_9 (fun _ h9 => h9) rfl rfl rfl (Nat.le_of_ble_eq_true rfl) dX3_careFor_31 (fun H1 L1 hI => ?_)
          have hS := SW.p34 hS 3 (by decide) (ix (A 6 (ix ((30 * h) + (nI i))))) (t_6.pos hn h_3) (t_6.ixle hn).1 ((A 3 (ix (A 6 (ix ((30 * h) + (nI i)))))) + n) (p34y_1_3 h_8)
          refine W.eq (g2 := F0 mI 34 ls []) rfl ?_
          refine lv_iinc (v := (mny + 1)) (lv' := [(3, .int (mny + 1)), (5, .ref (aa (4 * ix (A 6 (ix ((30 * h) + (nI i))))))), (4, .int (nI i)), (0, .ref (aa (4 * ix (A0 11 (ix h))))), (1, .ref (aa (4 * ix h + 1))), (2, .int n)]) hx hb dX3_careFor_34 hl (k := 2) rfl rfl (by decide) rfl (fun ls hl => ?_)
          refine lv_iinc (v := ((nI i) + 1)) (lv' := [(4, .int ((nI i) + 1)), (3, .int (mny + 1)), (5, .ref (aa (4 * ix (A 6 (ix ((30 * h) + (nI i))))))), (0, .ref (aa (4 * ix (A0 11 (ix h))))), (1, .ref (aa (4 * ix h + 1))), (2, .int n)]) hx hb dX3_careFor_37 hl (k := 2) rfl rfl (by decide) rfl (fun ls hl => ?_)
          refine lv_goto (tgt := 5) hx hb dX3_careFor_40 (by decide) ?_
          have e9 : tdl A0 h n (i + 1) = ((mny + 1), (u2 A 3 (ix (A 6 (ix ((30 * h) + (nI i))))) ((A 3 (ix (A 6 (ix ((30 * h) + (nI i)))))) + n))) := by simp only [tdl, hT, ← h6, h_3, h_8, reduceIte, Bool.false_eq_true, not_true_eq_false, not_false_eq_true, ite_self, Int32.add_zero, u2_id]
          rw [nI_1] at hl
          exact ih (i + 1) _ _ _ _ _ ls (by omega) e9 hS hI (lv_sub hl [0, 1, 3, 4, 5] rfl)
  exact key (ix (A0 5 (ix h))) 0 0 A0 _ _ _ ls (by omega) rfl hS hI (by rw [nI_0]; exact hl)
set_option maxHeartbeats 4000000 in
set_option maxRecDepth 100000 in
theorem c_X10_tend (l : Launch) (E : gE) (b0 : Nat) (G : gG) (x : Nat) (aa : Nat → Nat) (A : gA) (nn : Nat) (hS : SW E x aa A nn G) (hn : nn < 600) (s n b : Int32) : gM l yX10_tend cX10_tend 7 (some .long) 5 2 160 E b0 G [.ref x, .int s, .int n, .int b] (pL (fun v9 G1 => v9 = (sp_tend A s n b).1 ∧ ∃ aa1 n1, n1 ≤ nn + 1 ∧ SW E x aa1 (sp_tend A s n b).2 n1 G1)) := by
  obtain rfl : aa 0 = x := hS.2.2.1
  refine gM.of (by decide +kernel) (Nat.le_of_ble_eq_true rfl) ?_
  intro pP eP sP mI bP meth cP ls hx hb hr hml hown hlocks hnm hts hK hI hl
  have hl : lv_has ls 7 [(0, .ref (aa 0)), (1, .int s), (2, .int n), (3, .int b)] := hl
  have hown : sP.vm.findClass RX10 = some mI.cls := hown
  refine lv_iload_n hx hb dX10_tend_0 rfl (lv_at hl 1 rfl) ?_
  refine g_callS (own := RX10) (index := 23) (n := 1) hx hb hml hown hts (c_X10_isShelf l E b0 _ s) m_ml_X10_23 m_st_X10_isShelf m_in_X10 m_co_X10_isShelf (by decide +kernel) ⟨Nat.le_of_ble_eq_true rfl, Nat.le_of_ble_eq_true rfl⟩ ⟨by first | exact Nat.le_of_ble_eq_true rfl | (show _ ≤ 2; omega), by first | exact Nat.le_of_ble_eq_true rfl | (show _ ≤ 160; omega)⟩ rfl hl.1 rfl (Nat.le_of_ble_eq_true rfl) dX10_tend_1 hK hI (fun r G1 H1 L1 hp hI => ?_)
  obtain ⟨v, rfl, hGe, ⟨h_1, rfl⟩ | ⟨h_1, rfl⟩⟩ := hp
  · rw [hGe] at hI
    refine W.eq (g2 := F0 mI 4 ls [.int 1]) rfl ?_
    refine lv_if_ne (tgt := 11) hx hb dX10_tend_4 (by decide) (fun _ => ?_) (fun c_2 => absurd c_2 (by decide))
    refine lv_aload_n hx hb dX10_tend_11 rfl (lv_at hl 0 rfl) ?_
    refine g_get (index := 11) (ci := 8) hx hb hts inlX10 hown hK hI hS.2.2.2.1 rfl 0 (by decide) m_fl_X10_11 (fun _ h9 => h9) rfl dX10_tend_12 ?_
    refine lv_iload_n hx hb dX10_tend_15 rfl (lv_at hl 1 rfl) ?_
    rcases btf (eqb (A 0 (ix s)) 0) with h_3 | h_3
    · have z_4 := fun lo hi => fit_0 (A := A) lo hi h_3
      have t_5 : tv nn (A 0 (ix s)) := (hS.tsh h_1)
      refine g_aald hx hb hK hI 1 hS.2.2.2.2.1 rfl (sh_in h_1) dX10_tend_16 ?_
      refine W.eq (g2 := F0 mI 17 ls [.null]) (by rw [show shf aa A (Int32.toNatClampNeg s) = adr aa (A 0 (ix s)) from shf_at h_1, adr_n h_3]; rfl) ?_
      refine g_callS (own := RX10) (index := 54) (n := 1) hx hb hml hown hts (c_X10_asHive_n l E b0 _) m_ml_X10_54 m_st_X10_asHive m_in_X10 m_co_X10_asHive (by decide +kernel) ⟨Nat.le_of_ble_eq_true rfl, Nat.le_of_ble_eq_true rfl⟩ ⟨by first | exact Nat.le_of_ble_eq_true rfl | (show _ ≤ 2; omega), by first | exact Nat.le_of_ble_eq_true rfl | (show _ ≤ 160; omega)⟩ rfl hl.1 rfl (Nat.le_of_ble_eq_true rfl) dX10_tend_17 hK hI (fun r G1 H1 L1 hp hI => ?_)
      obtain ⟨v, rfl, ev, hGe⟩ := hp
      subst ev
      rw [hGe] at hI
      refine W.eq (g2 := F0 mI 20 ls [.null]) rfl ?_
      refine lv_astoreN (lv' := [(4, .null), (0, .ref (aa 0)), (1, .int s), (2, .int n), (3, .int b)]) hx hb dX10_tend_20 hl (by decide) rfl (fun ls hl => ?_)
      refine lv_aloadN hx hb dX10_tend_22 (lv_at hl 0 rfl) ?_
      refine lv_ifnullN (tgt := 35) hx hb dX10_tend_24 (by decide) ?_
      refine lv_aload_n hx hb dX10_tend_35 rfl (lv_at hl 1 rfl) ?_
      refine lv_aload_n hx hb dX10_tend_36 rfl (lv_at hl 1 rfl) ?_
      refine g_get (index := 11) (ci := 8) hx hb hts inlX10 hown hK hI hS.2.2.2.1 rfl 0 (by decide) m_fl_X10_11 (fun _ h9 => h9) rfl dX10_tend_37 ?_
      refine lv_iload_n hx hb dX10_tend_40 rfl (lv_at hl 2 rfl) ?_
      refine g_aald hx hb hK hI 1 hS.2.2.2.2.1 rfl (sh_in h_1) dX10_tend_41 ?_
      refine W.eq (g2 := F0 mI 42 ls [.null, .ref (aa 0)]) (by rw [show shf aa A (Int32.toNatClampNeg s) = adr aa (A 0 (ix s)) from shf_at h_1, adr_n h_3]; rfl) ?_
      refine g_callS (own := RX10) (index := 66) (n := 1) hx hb hml hown hts (c_X10_castOrNull_n l E b0 _) m_ml_X10_66 m_st_X10_castOrNull m_in_X10 m_co_X10_castOrNull (by decide +kernel) ⟨Nat.le_of_ble_eq_true rfl, Nat.le_of_ble_eq_true rfl⟩ ⟨by first | exact Nat.le_of_ble_eq_true rfl | (show _ ≤ 2; omega), by first | exact Nat.le_of_ble_eq_true rfl | (show _ ≤ 160; omega)⟩ rfl hl.1 rfl (Nat.le_of_ble_eq_true rfl) dX10_tend_42 hK hI (fun r G1 H1 L1 hp hI => ?_)
      obtain ⟨v, rfl, ev, hGe⟩ := hp
      subst ev
      rw [hGe] at hI
      refine W.eq (g2 := F0 mI 45 ls [.int 1, .ref (aa 0)]) rfl ?_
      refine g_callV (own := RX10) (index := 96) (n := 1) hx hb hml hown hts (c_X10_refuseLong l E b0 _ _ aa _ nn hS hn 1 (vp_in_iff.mpr (by decide))) hS.2.2.2.1 rfl rfl m_ml_X10_96 m_im_X10_refuseLong m_se_X10_X10_refuseLong_X10_refuseLong m_in_X10 m_co_X10_refuseLong (by decide +kernel) ⟨Nat.le_of_ble_eq_true rfl, Nat.le_of_ble_eq_true rfl⟩ ⟨by first | exact Nat.le_of_ble_eq_true rfl | (show _ ≤ 2; omega), by first | exact Nat.le_of_ble_eq_true rfl | (show _ ≤ 160; omega)⟩ rfl hl.1 rfl (Nat.le_of_ble_eq_true rfl) dX10_tend_45 hK hI (fun r G1 H1 L1 hp hI => ?_)
      obtain ⟨v, rfl, ev, hS⟩ := hp
      subst ev
      refine W.eq (g2 := F0 mI 48 ls [.long (-9223372036854775708 + ((-10 - 1) : Int32).toInt64)]) rfl ?_
      have e9 : sp_tend A s n b = ((-9223372036854775708 + ((-10 - 1) : Int32).toInt64), (rfs A 1)) := by
        simp only [sp_tend, rfi, rfj, wHv, wRw, wSl, h_1, h_3, z_4, eqb_00, eqb_10, eqb_20, eqb_30, eqb_50, eqb_11, eqb_21, reduceIte, Bool.false_eq_true, not_true_eq_false, not_false_eq_true, ite_self]
      exact g_lret hx hb hr hlocks hI ⟨_, rfl, by rw [e9], aa, nn, by omega, by rw [e9]; exact hS⟩ dX10_tend_48 (by omega) (by omega)
    · have _ := 0
      have t_6 : tv nn (A 0 (ix s)) := (hS.tsh h_1)
      refine g_aald hx hb hK hI 1 hS.2.2.2.2.1 rfl (sh_in h_1) dX10_tend_16 ?_
      refine W.eq (g2 := F0 mI 17 ls [.ref (aa (4 * ix (A 0 (ix s))))]) (by rw [show shf aa A (Int32.toNatClampNeg s) = adr aa (A 0 (ix s)) from shf_at h_1, adr_s h_3]; rfl) ?_
      rcases btf (fit A (A 0 (ix s)) 6 7) with h_7 | h_7
      · have _ := 0
        refine g_callS (own := RX10) (index := 54) (n := 1) hx hb hml hown hts (c_X10_asHive_y l E b0 _ (aa (4 * ix (A 0 (ix s)))) _ _ (hS.at hn t_6 h_3) (cix_in _) (hS.gs hn t_6 h_3 5 (by decide) h_7)) m_ml_X10_54 m_st_X10_asHive m_in_X10 m_co_X10_asHive (by decide +kernel) ⟨Nat.le_of_ble_eq_true rfl, Nat.le_of_ble_eq_true rfl⟩ ⟨by first | exact Nat.le_of_ble_eq_true rfl | (show _ ≤ 2; omega), by first | exact Nat.le_of_ble_eq_true rfl | (show _ ≤ 160; omega)⟩ rfl hl.1 rfl (Nat.le_of_ble_eq_true rfl) dX10_tend_17 hK hI (fun r G1 H1 L1 hp hI => ?_)
        obtain ⟨v, rfl, ev, hGe⟩ := hp
        subst ev
        rw [hGe] at hI
        refine W.eq (g2 := F0 mI 20 ls [.ref (aa (4 * ix (A 0 (ix s))))]) rfl ?_
        refine lv_astore (lv' := [(4, .ref (aa (4 * ix (A 0 (ix s))))), (0, .ref (aa 0)), (1, .int s), (2, .int n), (3, .int b)]) hx hb dX10_tend_20 hl (by decide) rfl (fun ls hl => ?_)
        refine lv_aload hx hb dX10_tend_22 (lv_at hl 0 rfl) ?_
        refine lv_ifnull hx hb dX10_tend_24 ?_
        refine lv_aload hx hb dX10_tend_27 (lv_at hl 0 rfl) ?_
        rcases btf (eqb (A 11 (ix (A 0 (ix s)))) 0) with h_8 | h_8
        · have z_9 := fun lo hi => fit_0 (A := A) lo hi h_8
          have t_10 : tv nn (A 11 (ix (A 0 (ix s)))) := (hS.tpt hn t_6 11 (by decide))
          refine g_get (index := 124) (ci := 5) hx hb hts inlX5 hown hK hI (hS.hv hn t_6 h_3 h_7) rfl 4 (by decide) m_fl_X10_124 (fun _ h9 => h9) rfl dX10_tend_29 ?_
          refine W.eq (g2 := F0 mI 32 ls [.null]) (by rw [adr_n h_8]; rfl) ?_
          refine lv_ifnonnullN hx hb dX10_tend_32 ?_
          refine lv_aload_n hx hb dX10_tend_35 rfl (lv_at hl 1 rfl) ?_
          refine lv_aload_n hx hb dX10_tend_36 rfl (lv_at hl 1 rfl) ?_
          refine g_get (index := 11) (ci := 8) hx hb hts inlX10 hown hK hI hS.2.2.2.1 rfl 0 (by decide) m_fl_X10_11 (fun _ h9 => h9) rfl dX10_tend_37 ?_
          refine lv_iload_n hx hb dX10_tend_40 rfl (lv_at hl 2 rfl) ?_
          refine g_aald hx hb hK hI 1 hS.2.2.2.2.1 rfl (sh_in h_1) dX10_tend_41 ?_
          refine W.eq (g2 := F0 mI 42 ls [.ref (aa (4 * ix (A 0 (ix s)))), .ref (aa 0)]) (by rw [show shf aa A (Int32.toNatClampNeg s) = adr aa (A 0 (ix s)) from shf_at h_1, adr_s h_3]; rfl) ?_
          refine g_callS (own := RX10) (index := 66) (n := 1) hx hb hml hown hts (c_X10_castOrNull_y l E b0 _ (aa (4 * ix (A 0 (ix s)))) _ _ (hS.at hn t_6 h_3) (cix_in _) (hS.gs hn t_6 h_3 5 (by decide) h_7)) m_ml_X10_66 m_st_X10_castOrNull m_in_X10 m_co_X10_castOrNull (by decide +kernel) ⟨Nat.le_of_ble_eq_true rfl, Nat.le_of_ble_eq_true rfl⟩ ⟨by first | exact Nat.le_of_ble_eq_true rfl | (show _ ≤ 2; omega), by first | exact Nat.le_of_ble_eq_true rfl | (show _ ≤ 160; omega)⟩ rfl hl.1 rfl (Nat.le_of_ble_eq_true rfl) dX10_tend_42 hK hI (fun r G1 H1 L1 hp hI => ?_)
          obtain ⟨v, rfl, ev, hGe⟩ := hp
          subst ev
          rw [hGe] at hI
          refine W.eq (g2 := F0 mI 45 ls [.int 1, .ref (aa 0)]) rfl ?_
          refine g_callV (own := RX10) (index := 96) (n := 1) hx hb hml hown hts (c_X10_refuseLong l E b0 _ _ aa _ nn hS hn 1 (vp_in_iff.mpr (by decide))) hS.2.2.2.1 rfl rfl m_ml_X10_96 m_im_X10_refuseLong m_se_X10_X10_refuseLong_X10_refuseLong m_in_X10 m_co_X10_refuseLong (by decide +kernel) ⟨Nat.le_of_ble_eq_true rfl, Nat.le_of_ble_eq_true rfl⟩ ⟨by first | exact Nat.le_of_ble_eq_true rfl | (show _ ≤ 2; omega), by first | exact Nat.le_of_ble_eq_true rfl | (show _ ≤ 160; omega)⟩ rfl hl.1 rfl (Nat.le_of_ble_eq_true rfl) dX10_tend_45 hK hI (fun r G1 H1 L1 hp hI => ?_)
          obtain ⟨v, rfl, ev, hS⟩ := hp
          subst ev
          refine W.eq (g2 := F0 mI 48 ls [.long (-9223372036854775708 + ((-10 - 1) : Int32).toInt64)]) rfl ?_
          have e9 : sp_tend A s n b = ((-9223372036854775708 + ((-10 - 1) : Int32).toInt64), (rfs A 1)) := by
            simp only [sp_tend, rfi, rfj, wHv, wRw, wSl, h_1, h_3, h_7, h_8, z_9, eqb_00, eqb_10, eqb_20, eqb_30, eqb_50, eqb_11, eqb_21, reduceIte, Bool.false_eq_true, not_true_eq_false, not_false_eq_true, ite_self]
          exact g_lret hx hb hr hlocks hI ⟨_, rfl, by rw [e9], aa, nn, by omega, by rw [e9]; exact hS⟩ dX10_tend_48 (by omega) (by omega)
        · have _ := 0
          have t_11 : tv nn (A 11 (ix (A 0 (ix s)))) := (hS.tpt hn t_6 11 (by decide))
          have f_12 := (hS.fpt hn t_6 h_3).2.1
          refine g_get (index := 124) (ci := 5) hx hb hts inlX5 hown hK hI (hS.hv hn t_6 h_3 h_7) rfl 4 (by decide) m_fl_X10_124 (fun _ h9 => h9) rfl dX10_tend_29 ?_
          refine W.eq (g2 := F0 mI 32 ls [.ref (aa (4 * ix (A 11 (ix (A 0 (ix s))))))]) (by rw [adr_s h_8]; rfl) ?_
          refine lv_ifnonnull (tgt := 49) hx hb dX10_tend_32 (by decide) ?_
          refine lv_aload hx hb dX10_tend_49 (lv_at hl 0 rfl) ?_
          have f_13 := (hS.fpt hn t_6 h_3).2.1
          refine g_get (index := 124) (ci := 5) hx hb hts inlX5 hown hK hI (hS.hv hn t_6 h_3 h_7) rfl 4 (by decide) m_fl_X10_124 (fun _ h9 => h9) rfl dX10_tend_51 ?_
          refine W.eq (g2 := F0 mI 54 ls [.ref (aa (4 * ix (A 11 (ix (A 0 (ix s))))))]) (by rw [adr_s h_8]; rfl) ?_
          refine lv_astore (lv' := [(5, .ref (aa (4 * ix (A 11 (ix (A 0 (ix s))))))), (4, .ref (aa (4 * ix (A 0 (ix s))))), (0, .ref (aa 0)), (1, .int s), (2, .int n), (3, .int b)]) hx hb dX10_tend_54 hl (by decide) rfl (fun ls hl => ?_)
          refine lv_aload hx hb dX10_tend_56 (lv_at hl 0 rfl) ?_
          refine lv_aload hx hb dX10_tend_58 (lv_at hl 1 rfl) ?_
          rcases Classical.em ((A 5 (ix (A 0 (ix s)))) < 0) with h_14 | h_14
          · have _ := 0
            refine g_get (index := 62) (ci := 5) hx hb hts inlX5 hown hK hI (hS.hv hn t_6 h_3 h_7) rfl 1 (by decide) m_fl_X10_62 (fun _ h9 => h9) rfl dX10_tend_60 ?_
            refine W.eq (g2 := F0 mI 63 ls [.null, .ref (aa (4 * ix (A 11 (ix (A 0 (ix s))))))]) (by rw [rwo_n h_14]; rfl) ?_
            rcases fit_2 (A := A) (k := 3) (m := 4) (by decide) h_8 f_13 with h_15 | h_15
            · have _ := 0
              have q_16 := eqb34 h_15
              refine g_callU (own := RX10) (owner := RX6) (index := 128) (n := 1) (x := ⟨RX6, "canCareFor", "([LHiveYard$Frame;)Z"⟩) hx hb hml hown hts (c_X8_canCareFor_n l E b0 _ _ 0) (((hS.at hn t_11 h_8)).trans (congrArg some (thc_3 h_15))) rfl hK.2.1.2.1 m_ml_X10_128 m_sm_X6_canCareFor m_se_X8_q_X6_canCareFor_X8_canCareFor m_im_X8_canCareFor m_in_X8 m_co_X8_canCareFor (by decide +kernel) ⟨Nat.le_of_ble_eq_true rfl, Nat.le_of_ble_eq_true rfl⟩ ⟨Nat.le_of_ble_eq_true rfl, Nat.le_of_ble_eq_true rfl⟩ rfl hl.1 rfl (Nat.le_of_ble_eq_true rfl) dX10_tend_63 hK hI (fun r G1 H1 L1 hp hI => ?_)
              obtain ⟨v8, rfl, ev, hGe⟩ := hp
              subst ev
              rw [hGe] at hI
              refine W.eq (g2 := F0 mI 66 ls [.int 1]) rfl ?_
              refine lv_if_ne (tgt := 75) hx hb dX10_tend_66 (by decide) (fun _ => ?_) (fun c_17 => absurd c_17 (by decide))
              refine lv_aload hx hb dX10_tend_75 (lv_at hl 0 rfl) ?_
              refine lv_aload hx hb dX10_tend_77 (lv_at hl 1 rfl) ?_
              refine g_get (index := 62) (ci := 5) hx hb hts inlX5 hown hK hI (hS.hv hn t_6 h_3 h_7) rfl 1 (by decide) m_fl_X10_62 (fun _ h9 => h9) rfl dX10_tend_79 ?_
              refine W.eq (g2 := F0 mI 82 ls [.null, .ref (aa (4 * ix (A 11 (ix (A 0 (ix s))))))]) (by rw [rwo_n h_14]; rfl) ?_
              refine lv_iload_n hx hb dX10_tend_82 rfl (lv_at hl 4 rfl) ?_
              refine g_callU (own := RX10) (owner := RX6) (index := 134) (n := 2) (x := ⟨RX6, "careFor", "([LHiveYard$Frame;I)I"⟩) hx hb hml hown hts (c_X8_careFor_n l E b0 _ _ aa _ nn hS hn (A 0 (ix s)) n t_6 h_3 t_11 h_8 0 h_15) ((hS.at hn t_11 h_8).trans (congrArg some (thc_3 h_15))) rfl hK.2.1.2.2 m_ml_X10_134 m_sm_X6_careFor m_se_X8_q_X6_careFor_X8_careFor m_im_X8_careFor m_in_X8 m_co_X8_careFor (by decide +kernel) ⟨Nat.le_of_ble_eq_true rfl, Nat.le_of_ble_eq_true rfl⟩ ⟨Nat.le_of_ble_eq_true rfl, Nat.le_of_ble_eq_true rfl⟩ rfl hl.1 rfl (Nat.le_of_ble_eq_true rfl) dX10_tend_83 hK hI (fun r G1 H1 L1 hp hI => ?_)
              obtain ⟨v8, rfl, ev, hS⟩ := hp
              subst ev
              refine W.eq (g2 := F0 mI 86 ls [.int ((sp_tended A (A 0 (ix s)) n).1)]) rfl ?_
              refine lv_istore (lv' := [(6, .int ((sp_tended A (A 0 (ix s)) n).1)), (5, .ref (aa (4 * ix (A 11 (ix (A 0 (ix s))))))), (4, .ref (aa (4 * ix (A 0 (ix s))))), (0, .ref (aa 0)), (1, .int s), (2, .int n), (3, .int b)]) hx hb dX10_tend_86 hl (by decide) rfl (fun ls hl => ?_)
              refine lv_iload_n hx hb dX10_tend_88 rfl (lv_at hl 6 rfl) ?_
              refine lv_if_eq (tgt := 106) hx hb dX10_tend_89 (by decide) (fun c_18 => ?_) (fun c_18 => ?_)
              · have q_19 := eqb_t c_18
                refine lv_iload hx hb dX10_tend_106 (lv_at hl 0 rfl) ?_
                refine lv_i2l hx hb dX10_tend_108 rfl ?_
                have e9 : sp_tend A s n b = ((((sp_tended A (A 0 (ix s)) n).1 : Int32).toInt64), (sp_tended A (A 0 (ix s)) n).2) := by
                  simp only [sp_tend, rfi, rfj, wHv, wRw, wSl, h_1, h_3, h_7, h_8, h_14, h_15, q_16, q_19, eqb_00, eqb_10, eqb_20, eqb_30, eqb_50, eqb_11, eqb_21, reduceIte, Bool.false_eq_true, not_true_eq_false, not_false_eq_true, ite_self]
                exact g_lret hx hb hr hlocks hI ⟨_, rfl, by rw [e9], aa, nn, by omega, by rw [e9]; exact hS⟩ dX10_tend_109 (by omega) (by omega)
              · have q_20 := eqb_f c_18
                refine lv_aload hx hb dX10_tend_92 (lv_at hl 1 rfl) ?_
                refine lv_aload hx hb dX10_tend_94 (lv_at hl 2 rfl) ?_
                have hf2 : fit (sp_tended A (A 0 (ix s)) n).2 (A 0 (ix s)) 6 7 = true := by rw [fit_of (tended_o 2 (by decide))]; exact h_7
                have r2 : (sp_tended A (A 0 (ix s)) n).2 5 (ix (A 0 (ix s))) < 0 := by rw [tended_o 5 (by decide)]; exact h_14
                refine g_get (index := 62) (ci := 5) hx hb hts inlX5 hown hK hI (hS.hv hn t_6 h_3 hf2) rfl 1 (by decide) m_fl_X10_62 (fun _ h9 => h9) rfl dX10_tend_96 ?_
                refine W.eq (g2 := F0 mI 99 ls [.null, .ref (aa (4 * ix (A 11 (ix (A 0 (ix s))))))]) (by rw [rwo_n r2]; rfl) ?_
                refine lv_iload hx hb dX10_tend_99 (lv_at hl 0 rfl) ?_
                have o11 : (sp_tended A (A 0 (ix s)) n).2 11 = A 11 := funext fun _ => congrFun (tended_o 11 (by decide)) _
                have hs2 : eqb ((sp_tended A (A 0 (ix s)) n).2 2 (ix ((sp_tended A (A 0 (ix s)) n).2 11 (ix (A 0 (ix s)))))) 3 = true := by rw [o11, tended_o 2 (by decide)]; exact h_15
                have hz2 : eqb ((sp_tended A (A 0 (ix s)) n).2 11 (ix (A 0 (ix s)))) 0 = false := by rw [o11]; exact h_8
                have ht2 : tv nn ((sp_tended A (A 0 (ix s)) n).2 11 (ix (A 0 (ix s)))) := by rw [o11]; exact t_11
                refine W.eq (g2 := F0 mI 101 ls [.int ((sp_tended A (A 0 (ix s)) n).1), .null, .ref (aa (4 * ix ((sp_tended A (A 0 (ix s)) n).2 11 (ix (A 0 (ix s))))))]) (by rw [o11]) ?_
                refine g_callU (own := RX10) (owner := RX6) (index := 134) (n := 2) (x := ⟨RX6, "careFor", "([LHiveYard$Frame;I)I"⟩) hx hb hml hown hts (c_X8_careFor_n l E b0 _ _ aa _ nn hS hn (A 0 (ix s)) (sp_tended A (A 0 (ix s)) n).1 t_6 h_3 ht2 hz2 0 hs2) ((hS.at hn ht2 hz2).trans (congrArg some (thc_3 hs2))) rfl hK.2.1.2.2 m_ml_X10_134 m_sm_X6_careFor m_se_X8_q_X6_careFor_X8_careFor m_im_X8_careFor m_in_X8 m_co_X8_careFor (by decide +kernel) ⟨Nat.le_of_ble_eq_true rfl, Nat.le_of_ble_eq_true rfl⟩ ⟨Nat.le_of_ble_eq_true rfl, Nat.le_of_ble_eq_true rfl⟩ rfl hl.1 rfl (Nat.le_of_ble_eq_true rfl) dX10_tend_101 hK hI (fun r G1 H1 L1 hp hI => ?_)
                obtain ⟨v8, rfl, ev, hS⟩ := hp
                subst ev
                refine W.eq (g2 := F0 mI 104 ls [.int ((sp_tended (sp_tended A (A 0 (ix s)) n).2 (A 0 (ix s)) (sp_tended A (A 0 (ix s)) n).1).1)]) rfl ?_
                refine lv_istore (lv' := [(6, .int ((sp_tended (sp_tended A (A 0 (ix s)) n).2 (A 0 (ix s)) (sp_tended A (A 0 (ix s)) n).1).1)), (5, .ref (aa (4 * ix (A 11 (ix (A 0 (ix s))))))), (4, .ref (aa (4 * ix (A 0 (ix s))))), (0, .ref (aa 0)), (1, .int s), (2, .int n), (3, .int b)]) hx hb dX10_tend_104 hl (by decide) rfl (fun ls hl => ?_)
                refine lv_iload hx hb dX10_tend_106 (lv_at hl 0 rfl) ?_
                refine lv_i2l hx hb dX10_tend_108 rfl ?_
                have e9 : sp_tend A s n b = ((((sp_tended (sp_tended A (A 0 (ix s)) n).2 (A 0 (ix s)) (sp_tended A (A 0 (ix s)) n).1).1 : Int32).toInt64), (sp_tended (sp_tended A (A 0 (ix s)) n).2 (A 0 (ix s)) (sp_tended A (A 0 (ix s)) n).1).2) := by
                  simp only [sp_tend, rfi, rfj, wHv, wRw, wSl, h_1, h_3, h_7, h_8, h_14, h_15, q_16, q_20, eqb_00, eqb_10, eqb_20, eqb_30, eqb_50, eqb_11, eqb_21, reduceIte, Bool.false_eq_true, not_true_eq_false, not_false_eq_true, ite_self]
                exact g_lret hx hb hr hlocks hI ⟨_, rfl, by rw [e9], aa, nn, by omega, by rw [e9]; exact hS⟩ dX10_tend_109 (by omega) (by omega)
            · have _ := 0
              have q_21 := eqb43 h_15
              refine g_callU (own := RX10) (owner := RX6) (index := 128) (n := 1) (x := ⟨RX6, "canCareFor", "([LHiveYard$Frame;)Z"⟩) hx hb hml hown hts (c_X3_canCareFor_n l E b0 _ _ 0) (((hS.at hn t_11 h_8)).trans (congrArg some (thc_4 h_15))) rfl hK.2.1.2.1 m_ml_X10_128 m_sm_X6_canCareFor m_se_X3_q_X6_canCareFor_X3_canCareFor m_im_X3_canCareFor m_in_X3 m_co_X3_canCareFor (by decide +kernel) ⟨Nat.le_of_ble_eq_true rfl, Nat.le_of_ble_eq_true rfl⟩ ⟨Nat.le_of_ble_eq_true rfl, Nat.le_of_ble_eq_true rfl⟩ rfl hl.1 rfl (Nat.le_of_ble_eq_true rfl) dX10_tend_63 hK hI (fun r G1 H1 L1 hp hI => ?_)
              obtain ⟨v8, rfl, ev, hGe⟩ := hp
              subst ev
              rw [hGe] at hI
              refine W.eq (g2 := F0 mI 66 ls [.int 0]) rfl ?_
              refine lv_if_ne (tgt := 75) hx hb dX10_tend_66 (by decide) (fun c_22 => absurd c_22 (by decide)) (fun _ => ?_)
              refine lv_aload_n hx hb dX10_tend_69 rfl (lv_at hl 2 rfl) ?_
              refine lv_iconst (v := 1) hx hb dX10_tend_70 (by decide) ?_
              refine g_callV (own := RX10) (index := 96) (n := 1) hx hb hml hown hts (c_X10_refuseLong l E b0 _ _ aa _ nn hS hn 1 (vp_in_iff.mpr (by decide))) hS.2.2.2.1 rfl rfl m_ml_X10_96 m_im_X10_refuseLong m_se_X10_X10_refuseLong_X10_refuseLong m_in_X10 m_co_X10_refuseLong (by decide +kernel) ⟨Nat.le_of_ble_eq_true rfl, Nat.le_of_ble_eq_true rfl⟩ ⟨by first | exact Nat.le_of_ble_eq_true rfl | (show _ ≤ 2; omega), by first | exact Nat.le_of_ble_eq_true rfl | (show _ ≤ 160; omega)⟩ rfl hl.1 rfl (Nat.le_of_ble_eq_true rfl) dX10_tend_71 hK hI (fun r G1 H1 L1 hp hI => ?_)
              obtain ⟨v, rfl, ev, hS⟩ := hp
              subst ev
              refine W.eq (g2 := F0 mI 74 ls [.long (-9223372036854775708 + ((-10 - 1) : Int32).toInt64)]) rfl ?_
              have e9 : sp_tend A s n b = ((-9223372036854775708 + ((-10 - 1) : Int32).toInt64), (rfs A 1)) := by
                simp only [sp_tend, rfi, rfj, wHv, wRw, wSl, h_1, h_3, h_7, h_8, h_14, h_15, q_21, eqb_00, eqb_10, eqb_20, eqb_30, eqb_50, eqb_11, eqb_21, reduceIte, Bool.false_eq_true, not_true_eq_false, not_false_eq_true, ite_self]
              exact g_lret hx hb hr hlocks hI ⟨_, rfl, by rw [e9], aa, nn, by omega, by rw [e9]; exact hS⟩ dX10_tend_74 (by omega) (by omega)
          · have _ := 0
            refine g_get (index := 62) (ci := 5) hx hb hts inlX5 hown hK hI (hS.hv hn t_6 h_3 h_7) rfl 1 (by decide) m_fl_X10_62 (fun _ h9 => h9) rfl dX10_tend_60 ?_
            refine W.eq (g2 := F0 mI 63 ls [.ref (aa (4 * ix (A 0 (ix s)) + 1)), .ref (aa (4 * ix (A 11 (ix (A 0 (ix s))))))]) (by rw [rwo_s h_14]; rfl) ?_
            rcases fit_2 (A := A) (k := 3) (m := 4) (by decide) h_8 f_13 with h_23 | h_23
            · have _ := 0
              have q_24 := eqb34 h_23
              refine g_callU (own := RX10) (owner := RX6) (index := 128) (n := 1) (x := ⟨RX6, "canCareFor", "([LHiveYard$Frame;)Z"⟩) hx hb hml hown hts (c_X8_canCareFor_r l E b0 _ _ (aa (4 * ix (A 0 (ix s)) + 1))) (((hS.at hn t_11 h_8)).trans (congrArg some (thc_3 h_23))) rfl hK.2.1.2.1 m_ml_X10_128 m_sm_X6_canCareFor m_se_X8_q_X6_canCareFor_X8_canCareFor m_im_X8_canCareFor m_in_X8 m_co_X8_canCareFor (by decide +kernel) ⟨Nat.le_of_ble_eq_true rfl, Nat.le_of_ble_eq_true rfl⟩ ⟨Nat.le_of_ble_eq_true rfl, Nat.le_of_ble_eq_true rfl⟩ rfl hl.1 rfl (Nat.le_of_ble_eq_true rfl) dX10_tend_63 hK hI (fun r G1 H1 L1 hp hI => ?_)
              obtain ⟨v8, rfl, ev, hGe⟩ := hp
              subst ev
              rw [hGe] at hI
              refine W.eq (g2 := F0 mI 66 ls [.int 1]) rfl ?_
              refine lv_if_ne (tgt := 75) hx hb dX10_tend_66 (by decide) (fun _ => ?_) (fun c_25 => absurd c_25 (by decide))
              refine lv_aload hx hb dX10_tend_75 (lv_at hl 0 rfl) ?_
              refine lv_aload hx hb dX10_tend_77 (lv_at hl 1 rfl) ?_
              refine g_get (index := 62) (ci := 5) hx hb hts inlX5 hown hK hI (hS.hv hn t_6 h_3 h_7) rfl 1 (by decide) m_fl_X10_62 (fun _ h9 => h9) rfl dX10_tend_79 ?_
              refine W.eq (g2 := F0 mI 82 ls [.ref (aa (4 * ix (A 0 (ix s)) + 1)), .ref (aa (4 * ix (A 11 (ix (A 0 (ix s))))))]) (by rw [rwo_s h_14]; rfl) ?_
              refine lv_iload_n hx hb dX10_tend_82 rfl (lv_at hl 4 rfl) ?_
              refine g_callU (own := RX10) (owner := RX6) (index := 134) (n := 2) (x := ⟨RX6, "careFor", "([LHiveYard$Frame;I)I"⟩) hx hb hml hown hts (c_X8_careFor_r l E b0 _ _ aa _ nn hS hn (A 0 (ix s)) n t_6 h_3 t_11 h_8 (aa (4 * ix (A 0 (ix s)) + 1)) h_23) ((hS.at hn t_11 h_8).trans (congrArg some (thc_3 h_23))) rfl hK.2.1.2.2 m_ml_X10_134 m_sm_X6_careFor m_se_X8_q_X6_careFor_X8_careFor m_im_X8_careFor m_in_X8 m_co_X8_careFor (by decide +kernel) ⟨Nat.le_of_ble_eq_true rfl, Nat.le_of_ble_eq_true rfl⟩ ⟨Nat.le_of_ble_eq_true rfl, Nat.le_of_ble_eq_true rfl⟩ rfl hl.1 rfl (Nat.le_of_ble_eq_true rfl) dX10_tend_83 hK hI (fun r G1 H1 L1 hp hI => ?_)
              obtain ⟨v8, rfl, ev, hS⟩ := hp
              subst ev
              refine W.eq (g2 := F0 mI 86 ls [.int ((sp_tended A (A 0 (ix s)) n).1)]) rfl ?_
              refine lv_istore (lv' := [(6, .int ((sp_tended A (A 0 (ix s)) n).1)), (5, .ref (aa (4 * ix (A 11 (ix (A 0 (ix s))))))), (4, .ref (aa (4 * ix (A 0 (ix s))))), (0, .ref (aa 0)), (1, .int s), (2, .int n), (3, .int b)]) hx hb dX10_tend_86 hl (by decide) rfl (fun ls hl => ?_)
              refine lv_iload_n hx hb dX10_tend_88 rfl (lv_at hl 6 rfl) ?_
              refine lv_if_eq (tgt := 106) hx hb dX10_tend_89 (by decide) (fun c_26 => ?_) (fun c_26 => ?_)
              · have q_27 := eqb_t c_26
                refine lv_iload hx hb dX10_tend_106 (lv_at hl 0 rfl) ?_
                refine lv_i2l hx hb dX10_tend_108 rfl ?_
                have e9 : sp_tend A s n b = ((((sp_tended A (A 0 (ix s)) n).1 : Int32).toInt64), (sp_tended A (A 0 (ix s)) n).2) := by
                  simp only [sp_tend, rfi, rfj, wHv, wRw, wSl, h_1, h_3, h_7, h_8, h_14, h_23, q_24, q_27, eqb_00, eqb_10, eqb_20, eqb_30, eqb_50, eqb_11, eqb_21, reduceIte, Bool.false_eq_true, not_true_eq_false, not_false_eq_true, ite_self]
                exact g_lret hx hb hr hlocks hI ⟨_, rfl, by rw [e9], aa, nn, by omega, by rw [e9]; exact hS⟩ dX10_tend_109 (by omega) (by omega)
              · have q_28 := eqb_f c_26
                refine lv_aload hx hb dX10_tend_92 (lv_at hl 1 rfl) ?_
                refine lv_aload hx hb dX10_tend_94 (lv_at hl 2 rfl) ?_
                have hf2 : fit (sp_tended A (A 0 (ix s)) n).2 (A 0 (ix s)) 6 7 = true := by rw [fit_of (tended_o 2 (by decide))]; exact h_7
                have r2 : ¬ (sp_tended A (A 0 (ix s)) n).2 5 (ix (A 0 (ix s))) < 0 := by rw [tended_o 5 (by decide)]; exact h_14
                refine g_get (index := 62) (ci := 5) hx hb hts inlX5 hown hK hI (hS.hv hn t_6 h_3 hf2) rfl 1 (by decide) m_fl_X10_62 (fun _ h9 => h9) rfl dX10_tend_96 ?_
                refine W.eq (g2 := F0 mI 99 ls [.ref (aa (4 * ix (A 0 (ix s)) + 1)), .ref (aa (4 * ix (A 11 (ix (A 0 (ix s))))))]) (by rw [rwo_s r2]; rfl) ?_
                refine lv_iload hx hb dX10_tend_99 (lv_at hl 0 rfl) ?_
                have o11 : (sp_tended A (A 0 (ix s)) n).2 11 = A 11 := funext fun _ => congrFun (tended_o 11 (by decide)) _
                have hs2 : eqb ((sp_tended A (A 0 (ix s)) n).2 2 (ix ((sp_tended A (A 0 (ix s)) n).2 11 (ix (A 0 (ix s)))))) 3 = true := by rw [o11, tended_o 2 (by decide)]; exact h_23
                have hz2 : eqb ((sp_tended A (A 0 (ix s)) n).2 11 (ix (A 0 (ix s)))) 0 = false := by rw [o11]; exact h_8
                have ht2 : tv nn ((sp_tended A (A 0 (ix s)) n).2 11 (ix (A 0 (ix s)))) := by rw [o11]; exact t_11
                refine W.eq (g2 := F0 mI 101 ls [.int ((sp_tended A (A 0 (ix s)) n).1), .ref (aa (4 * ix (A 0 (ix s)) + 1)), .ref (aa (4 * ix ((sp_tended A (A 0 (ix s)) n).2 11 (ix (A 0 (ix s))))))]) (by rw [o11]) ?_
                refine g_callU (own := RX10) (owner := RX6) (index := 134) (n := 2) (x := ⟨RX6, "careFor", "([LHiveYard$Frame;I)I"⟩) hx hb hml hown hts (c_X8_careFor_r l E b0 _ _ aa _ nn hS hn (A 0 (ix s)) (sp_tended A (A 0 (ix s)) n).1 t_6 h_3 ht2 hz2 (aa (4 * ix (A 0 (ix s)) + 1)) hs2) ((hS.at hn ht2 hz2).trans (congrArg some (thc_3 hs2))) rfl hK.2.1.2.2 m_ml_X10_134 m_sm_X6_careFor m_se_X8_q_X6_careFor_X8_careFor m_im_X8_careFor m_in_X8 m_co_X8_careFor (by decide +kernel) ⟨Nat.le_of_ble_eq_true rfl, Nat.le_of_ble_eq_true rfl⟩ ⟨Nat.le_of_ble_eq_true rfl, Nat.le_of_ble_eq_true rfl⟩ rfl hl.1 rfl (Nat.le_of_ble_eq_true rfl) dX10_tend_101 hK hI (fun r G1 H1 L1 hp hI => ?_)
                obtain ⟨v8, rfl, ev, hS⟩ := hp
                subst ev
                refine W.eq (g2 := F0 mI 104 ls [.int ((sp_tended (sp_tended A (A 0 (ix s)) n).2 (A 0 (ix s)) (sp_tended A (A 0 (ix s)) n).1).1)]) rfl ?_
                refine lv_istore (lv' := [(6, .int ((sp_tended (sp_tended A (A 0 (ix s)) n).2 (A 0 (ix s)) (sp_tended A (A 0 (ix s)) n).1).1)), (5, .ref (aa (4 * ix (A 11 (ix (A 0 (ix s))))))), (4, .ref (aa (4 * ix (A 0 (ix s))))), (0, .ref (aa 0)), (1, .int s), (2, .int n), (3, .int b)]) hx hb dX10_tend_104 hl (by decide) rfl (fun ls hl => ?_)
                refine lv_iload hx hb dX10_tend_106 (lv_at hl 0 rfl) ?_
                refine lv_i2l hx hb dX10_tend_108 rfl ?_
                have e9 : sp_tend A s n b = ((((sp_tended (sp_tended A (A 0 (ix s)) n).2 (A 0 (ix s)) (sp_tended A (A 0 (ix s)) n).1).1 : Int32).toInt64), (sp_tended (sp_tended A (A 0 (ix s)) n).2 (A 0 (ix s)) (sp_tended A (A 0 (ix s)) n).1).2) := by
                  simp only [sp_tend, rfi, rfj, wHv, wRw, wSl, h_1, h_3, h_7, h_8, h_14, h_23, q_24, q_28, eqb_00, eqb_10, eqb_20, eqb_30, eqb_50, eqb_11, eqb_21, reduceIte, Bool.false_eq_true, not_true_eq_false, not_false_eq_true, ite_self]
                exact g_lret hx hb hr hlocks hI ⟨_, rfl, by rw [e9], aa, nn, by omega, by rw [e9]; exact hS⟩ dX10_tend_109 (by omega) (by omega)
            · have _ := 0
              have q_29 := eqb43 h_23
              refine g_callU (own := RX10) (owner := RX6) (index := 128) (n := 1) (x := ⟨RX6, "canCareFor", "([LHiveYard$Frame;)Z"⟩) hx hb hml hown hts (c_X3_canCareFor_r l E b0 _ _ (aa (4 * ix (A 0 (ix s)) + 1))) (((hS.at hn t_11 h_8)).trans (congrArg some (thc_4 h_23))) rfl hK.2.1.2.1 m_ml_X10_128 m_sm_X6_canCareFor m_se_X3_q_X6_canCareFor_X3_canCareFor m_im_X3_canCareFor m_in_X3 m_co_X3_canCareFor (by decide +kernel) ⟨Nat.le_of_ble_eq_true rfl, Nat.le_of_ble_eq_true rfl⟩ ⟨Nat.le_of_ble_eq_true rfl, Nat.le_of_ble_eq_true rfl⟩ rfl hl.1 rfl (Nat.le_of_ble_eq_true rfl) dX10_tend_63 hK hI (fun r G1 H1 L1 hp hI => ?_)
              obtain ⟨v8, rfl, ev, hGe⟩ := hp
              subst ev
              rw [hGe] at hI
              refine W.eq (g2 := F0 mI 66 ls [.int 1]) rfl ?_
              refine lv_if_ne (tgt := 75) hx hb dX10_tend_66 (by decide) (fun _ => ?_) (fun c_30 => absurd c_30 (by decide))
              refine lv_aload hx hb dX10_tend_75 (lv_at hl 0 rfl) ?_
              refine lv_aload hx hb dX10_tend_77 (lv_at hl 1 rfl) ?_
              refine g_get (index := 62) (ci := 5) hx hb hts inlX5 hown hK hI (hS.hv hn t_6 h_3 h_7) rfl 1 (by decide) m_fl_X10_62 (fun _ h9 => h9) rfl dX10_tend_79 ?_
              refine W.eq (g2 := F0 mI 82 ls [.ref (aa (4 * ix (A 0 (ix s)) + 1)), .ref (aa (4 * ix (A 11 (ix (A 0 (ix s))))))]) (by rw [rwo_s h_14]; rfl) ?_
              refine lv_iload_n hx hb dX10_tend_82 rfl (lv_at hl 4 rfl) ?_
              refine g_callU (own := RX10) (owner := RX6) (index := 134) (n := 2) (x := ⟨RX6, "careFor", "([LHiveYard$Frame;I)I"⟩) hx hb hml hown hts (c_X3_careFor l E b0 _ _ aa _ nn hS hn (A 0 (ix s)) n t_6 h_3 t_11 h_8 h_23 h_14) ((hS.at hn t_11 h_8).trans (congrArg some (thc_4 h_23))) rfl hK.2.1.2.2 m_ml_X10_134 m_sm_X6_careFor m_se_X3_q_X6_careFor_X3_careFor m_im_X3_careFor m_in_X3 m_co_X3_careFor (by decide +kernel) ⟨Nat.le_of_ble_eq_true rfl, Nat.le_of_ble_eq_true rfl⟩ ⟨Nat.le_of_ble_eq_true rfl, Nat.le_of_ble_eq_true rfl⟩ rfl hl.1 rfl (Nat.le_of_ble_eq_true rfl) dX10_tend_83 hK hI (fun r G1 H1 L1 hp hI => ?_)
              obtain ⟨v8, rfl, ev, hS⟩ := hp
              subst ev
              refine W.eq (g2 := F0 mI 86 ls [.int ((sp_tended A (A 0 (ix s)) n).1)]) rfl ?_
              refine lv_istore (lv' := [(6, .int ((sp_tended A (A 0 (ix s)) n).1)), (5, .ref (aa (4 * ix (A 11 (ix (A 0 (ix s))))))), (4, .ref (aa (4 * ix (A 0 (ix s))))), (0, .ref (aa 0)), (1, .int s), (2, .int n), (3, .int b)]) hx hb dX10_tend_86 hl (by decide) rfl (fun ls hl => ?_)
              refine lv_iload_n hx hb dX10_tend_88 rfl (lv_at hl 6 rfl) ?_
              refine lv_if_eq (tgt := 106) hx hb dX10_tend_89 (by decide) (fun c_31 => ?_) (fun c_31 => ?_)
              · have q_32 := eqb_t c_31
                refine lv_iload hx hb dX10_tend_106 (lv_at hl 0 rfl) ?_
                refine lv_i2l hx hb dX10_tend_108 rfl ?_
                have e9 : sp_tend A s n b = ((((sp_tended A (A 0 (ix s)) n).1 : Int32).toInt64), (sp_tended A (A 0 (ix s)) n).2) := by
                  simp only [sp_tend, rfi, rfj, wHv, wRw, wSl, h_1, h_3, h_7, h_8, h_14, h_23, q_29, q_32, eqb_00, eqb_10, eqb_20, eqb_30, eqb_50, eqb_11, eqb_21, reduceIte, Bool.false_eq_true, not_true_eq_false, not_false_eq_true, ite_self]
                exact g_lret hx hb hr hlocks hI ⟨_, rfl, by rw [e9], aa, nn, by omega, by rw [e9]; exact hS⟩ dX10_tend_109 (by omega) (by omega)
              · have q_33 := eqb_f c_31
                refine lv_aload hx hb dX10_tend_92 (lv_at hl 1 rfl) ?_
                refine lv_aload hx hb dX10_tend_94 (lv_at hl 2 rfl) ?_
                have hf2 : fit (sp_tended A (A 0 (ix s)) n).2 (A 0 (ix s)) 6 7 = true := by rw [fit_of (tended_o 2 (by decide))]; exact h_7
                have r2 : ¬ (sp_tended A (A 0 (ix s)) n).2 5 (ix (A 0 (ix s))) < 0 := by rw [tended_o 5 (by decide)]; exact h_14
                refine g_get (index := 62) (ci := 5) hx hb hts inlX5 hown hK hI (hS.hv hn t_6 h_3 hf2) rfl 1 (by decide) m_fl_X10_62 (fun _ h9 => h9) rfl dX10_tend_96 ?_
                refine W.eq (g2 := F0 mI 99 ls [.ref (aa (4 * ix (A 0 (ix s)) + 1)), .ref (aa (4 * ix (A 11 (ix (A 0 (ix s))))))]) (by rw [rwo_s r2]; rfl) ?_
                refine lv_iload hx hb dX10_tend_99 (lv_at hl 0 rfl) ?_
                have o11 : (sp_tended A (A 0 (ix s)) n).2 11 = A 11 := funext fun _ => congrFun (tended_o 11 (by decide)) _
                have hs2 : eqb ((sp_tended A (A 0 (ix s)) n).2 2 (ix ((sp_tended A (A 0 (ix s)) n).2 11 (ix (A 0 (ix s)))))) 4 = true := by rw [o11, tended_o 2 (by decide)]; exact h_23
                have hz2 : eqb ((sp_tended A (A 0 (ix s)) n).2 11 (ix (A 0 (ix s)))) 0 = false := by rw [o11]; exact h_8
                have ht2 : tv nn ((sp_tended A (A 0 (ix s)) n).2 11 (ix (A 0 (ix s)))) := by rw [o11]; exact t_11
                have h52 : ¬ (sp_tended A (A 0 (ix s)) n).2 5 (ix (A 0 (ix s))) < 0 := by rw [tended_o 5 (by decide)]; exact h_14
                refine W.eq (g2 := F0 mI 101 ls [.int ((sp_tended A (A 0 (ix s)) n).1), .ref (aa (4 * ix (A 0 (ix s)) + 1)), .ref (aa (4 * ix ((sp_tended A (A 0 (ix s)) n).2 11 (ix (A 0 (ix s))))))]) (by rw [o11]) ?_
                refine g_callU (own := RX10) (owner := RX6) (index := 134) (n := 2) (x := ⟨RX6, "careFor", "([LHiveYard$Frame;I)I"⟩) hx hb hml hown hts (c_X3_careFor l E b0 _ _ aa _ nn hS hn (A 0 (ix s)) (sp_tended A (A 0 (ix s)) n).1 t_6 h_3 ht2 hz2 hs2 h52) ((hS.at hn ht2 hz2).trans (congrArg some (thc_4 hs2))) rfl hK.2.1.2.2 m_ml_X10_134 m_sm_X6_careFor m_se_X3_q_X6_careFor_X3_careFor m_im_X3_careFor m_in_X3 m_co_X3_careFor (by decide +kernel) ⟨Nat.le_of_ble_eq_true rfl, Nat.le_of_ble_eq_true rfl⟩ ⟨Nat.le_of_ble_eq_true rfl, Nat.le_of_ble_eq_true rfl⟩ rfl hl.1 rfl (Nat.le_of_ble_eq_true rfl) dX10_tend_101 hK hI (fun r G1 H1 L1 hp hI => ?_)
                obtain ⟨v8, rfl, ev, hS⟩ := hp
                subst ev
                refine W.eq (g2 := F0 mI 104 ls [.int ((sp_tended (sp_tended A (A 0 (ix s)) n).2 (A 0 (ix s)) (sp_tended A (A 0 (ix s)) n).1).1)]) rfl ?_
                refine lv_istore (lv' := [(6, .int ((sp_tended (sp_tended A (A 0 (ix s)) n).2 (A 0 (ix s)) (sp_tended A (A 0 (ix s)) n).1).1)), (5, .ref (aa (4 * ix (A 11 (ix (A 0 (ix s))))))), (4, .ref (aa (4 * ix (A 0 (ix s))))), (0, .ref (aa 0)), (1, .int s), (2, .int n), (3, .int b)]) hx hb dX10_tend_104 hl (by decide) rfl (fun ls hl => ?_)
                refine lv_iload hx hb dX10_tend_106 (lv_at hl 0 rfl) ?_
                refine lv_i2l hx hb dX10_tend_108 rfl ?_
                have e9 : sp_tend A s n b = ((((sp_tended (sp_tended A (A 0 (ix s)) n).2 (A 0 (ix s)) (sp_tended A (A 0 (ix s)) n).1).1 : Int32).toInt64), (sp_tended (sp_tended A (A 0 (ix s)) n).2 (A 0 (ix s)) (sp_tended A (A 0 (ix s)) n).1).2) := by
                  simp only [sp_tend, rfi, rfj, wHv, wRw, wSl, h_1, h_3, h_7, h_8, h_14, h_23, q_29, q_33, eqb_00, eqb_10, eqb_20, eqb_30, eqb_50, eqb_11, eqb_21, reduceIte, Bool.false_eq_true, not_true_eq_false, not_false_eq_true, ite_self]
                exact g_lret hx hb hr hlocks hI ⟨_, rfl, by rw [e9], aa, nn, by omega, by rw [e9]; exact hS⟩ dX10_tend_109 (by omega) (by omega)
      · have _ := 0
        refine g_callS (own := RX10) (index := 54) (n := 1) hx hb hml hown hts (c_X10_asHive_f l E b0 _ (aa (4 * ix (A 0 (ix s)))) _ _ (hS.at hn t_6 h_3) (cix_in _) (hS.gs hn t_6 h_3 5 (by decide) h_7)) m_ml_X10_54 m_st_X10_asHive m_in_X10 m_co_X10_asHive (by decide +kernel) ⟨Nat.le_of_ble_eq_true rfl, Nat.le_of_ble_eq_true rfl⟩ ⟨by first | exact Nat.le_of_ble_eq_true rfl | (show _ ≤ 2; omega), by first | exact Nat.le_of_ble_eq_true rfl | (show _ ≤ 160; omega)⟩ rfl hl.1 rfl (Nat.le_of_ble_eq_true rfl) dX10_tend_17 hK hI (fun r G1 H1 L1 hp hI => ?_)
        obtain ⟨v, rfl, ev, hGe⟩ := hp
        subst ev
        rw [hGe] at hI
        refine W.eq (g2 := F0 mI 20 ls [.null]) rfl ?_
        refine lv_astoreN (lv' := [(4, .null), (0, .ref (aa 0)), (1, .int s), (2, .int n), (3, .int b)]) hx hb dX10_tend_20 hl (by decide) rfl (fun ls hl => ?_)
        refine lv_aloadN hx hb dX10_tend_22 (lv_at hl 0 rfl) ?_
        refine lv_ifnullN (tgt := 35) hx hb dX10_tend_24 (by decide) ?_
        refine lv_aload_n hx hb dX10_tend_35 rfl (lv_at hl 1 rfl) ?_
        refine lv_aload_n hx hb dX10_tend_36 rfl (lv_at hl 1 rfl) ?_
        refine g_get (index := 11) (ci := 8) hx hb hts inlX10 hown hK hI hS.2.2.2.1 rfl 0 (by decide) m_fl_X10_11 (fun _ h9 => h9) rfl dX10_tend_37 ?_
        refine lv_iload_n hx hb dX10_tend_40 rfl (lv_at hl 2 rfl) ?_
        refine g_aald hx hb hK hI 1 hS.2.2.2.2.1 rfl (sh_in h_1) dX10_tend_41 ?_
        refine W.eq (g2 := F0 mI 42 ls [.ref (aa (4 * ix (A 0 (ix s)))), .ref (aa 0)]) (by rw [show shf aa A (Int32.toNatClampNeg s) = adr aa (A 0 (ix s)) from shf_at h_1, adr_s h_3]; rfl) ?_
        refine g_callS (own := RX10) (index := 66) (n := 1) hx hb hml hown hts (c_X10_castOrNull_f l E b0 _ (aa (4 * ix (A 0 (ix s)))) _ _ (hS.at hn t_6 h_3) (cix_in _) (hS.gs hn t_6 h_3 5 (by decide) h_7)) m_ml_X10_66 m_st_X10_castOrNull m_in_X10 m_co_X10_castOrNull (by decide +kernel) ⟨Nat.le_of_ble_eq_true rfl, Nat.le_of_ble_eq_true rfl⟩ ⟨by first | exact Nat.le_of_ble_eq_true rfl | (show _ ≤ 2; omega), by first | exact Nat.le_of_ble_eq_true rfl | (show _ ≤ 160; omega)⟩ rfl hl.1 rfl (Nat.le_of_ble_eq_true rfl) dX10_tend_42 hK hI (fun r G1 H1 L1 hp hI => ?_)
        obtain ⟨v, rfl, ev, hGe⟩ := hp
        subst ev
        rw [hGe] at hI
        refine W.eq (g2 := F0 mI 45 ls [.int 5, .ref (aa 0)]) rfl ?_
        refine g_callV (own := RX10) (index := 96) (n := 1) hx hb hml hown hts (c_X10_refuseLong l E b0 _ _ aa _ nn hS hn 5 (vp_in_iff.mpr (by decide))) hS.2.2.2.1 rfl rfl m_ml_X10_96 m_im_X10_refuseLong m_se_X10_X10_refuseLong_X10_refuseLong m_in_X10 m_co_X10_refuseLong (by decide +kernel) ⟨Nat.le_of_ble_eq_true rfl, Nat.le_of_ble_eq_true rfl⟩ ⟨by first | exact Nat.le_of_ble_eq_true rfl | (show _ ≤ 2; omega), by first | exact Nat.le_of_ble_eq_true rfl | (show _ ≤ 160; omega)⟩ rfl hl.1 rfl (Nat.le_of_ble_eq_true rfl) dX10_tend_45 hK hI (fun r G1 H1 L1 hp hI => ?_)
        obtain ⟨v, rfl, ev, hS⟩ := hp
        subst ev
        refine W.eq (g2 := F0 mI 48 ls [.long (-9223372036854775708 + ((-10 - 5) : Int32).toInt64)]) rfl ?_
        have e9 : sp_tend A s n b = ((-9223372036854775708 + ((-10 - 5) : Int32).toInt64), (rfs A 5)) := by
          simp only [sp_tend, rfi, rfj, wHv, wRw, wSl, h_1, h_3, h_7, eqb_00, eqb_10, eqb_20, eqb_30, eqb_50, eqb_11, eqb_21, reduceIte, Bool.false_eq_true, not_true_eq_false, not_false_eq_true, ite_self]
        exact g_lret hx hb hr hlocks hI ⟨_, rfl, by rw [e9], aa, nn, by omega, by rw [e9]; exact hS⟩ dX10_tend_48 (by omega) (by omega)
  · rw [hGe] at hI
    refine W.eq (g2 := F0 mI 4 ls [.int 0]) rfl ?_
    refine lv_if_ne (tgt := 11) hx hb dX10_tend_4 (by decide) (fun c_34 => absurd c_34 (by decide)) (fun _ => ?_)
    refine lv_ldc2 hx hb hown (hts _ m_kl_X10_94) dX10_tend_7 ?_
    have e9 : sp_tend A s n b = ((-9223372036854775808), A) := by
      simp only [sp_tend, rfi, rfj, wHv, wRw, wSl, h_1, eqb_00, eqb_10, eqb_20, eqb_30, eqb_50, eqb_11, eqb_21, reduceIte, Bool.false_eq_true, not_true_eq_false, not_false_eq_true, ite_self]
    exact g_lret hx hb hr hlocks hI ⟨_, rfl, by rw [e9], aa, nn, by omega, by rw [e9]; exact hS⟩ dX10_tend_10 (by omega) (by omega)
