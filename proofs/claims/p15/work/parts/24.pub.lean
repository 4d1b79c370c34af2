theorem thc_5y {aa : Nat → Nat} {A B : gA} {t ja jb q1 q2 : Nat} (hja : ja ≤ 12) (hB : B = z2 (u2 (u2 A 7 t (nI ja)) 8 t (nI jb)) 9 (144 * t) 144) (h : inb (A 2 t) 6 7 = true) (hk : ∃ k, k ≤ 7 ∧ A 2 t = nI k) : (.inr (5, (hvf aa A t).set 2 (.ref q1)) : va_E) = thc (va_up (va_up aa (4 * t + 2) q1) (4 * t + 3) q2) B t := by
  have e : ∀ k, k ≠ 7 → k ≠ 8 → k ≠ 9 → B k = A k := fun k h1 h2 h3 => by rw [hB, z2_ne h3, u2_ne h2, u2_ne h1]
  have e7 : B 7 t = nI ja := by rw [hB, z2_ne (by decide), u2_ne (by decide), u2_hit]
  have bbo : ∀ c, c ≠ 4 * t + 2 → c ≠ 4 * t + 3 → va_up (va_up aa (4 * t + 2) q1) (4 * t + 3) q2 c = aa c := fun c h1 h2 => by rw [va_up_ne _ _ h2, va_up_ne _ _ h1]
  have bb2 : va_up (va_up aa (4 * t + 2) q1) (4 * t + 3) q2 (4 * t + 2) = q1 := by rw [va_up_ne _ _ (by omega), va_up_self]
  clear hB
  generalize va_up (va_up aa (4 * t + 2) q1) (4 * t + 3) q2 = bb at *
  have ad : ∀ w, adr bb w = adr aa w := fun w => by unfold adr; rw [bbo _ (by omega) (by omega)]
  rw [thc_hive (A := B) (by rw [e 2 (by decide) (by decide) (by decide)]; exact h) (by rw [e 2 (by decide) (by decide) (by decide)]; exact hk)]
  have hc : cbo bb B t = some q1 := by rw [cbo_s (by rw [e7]; exact nI_pos (by omega)), bb2]
  have hr : rwo bb B t = rwo aa A t := by unfold rwo; rw [e 5 (by decide) (by decide) (by decide), bbo _ (by omega) (by omega)]
  unfold hvf
  rw [hc, hr, e 2 (by decide) (by decide) (by decide), e 10 (by decide) (by decide) (by decide), e 11 (by decide) (by decide) (by decide), e 12 (by decide) (by decide) (by decide), ad, ad, ad]
  rfl
theorem SW.pos8 {E : gE} {x : Nat} {aa : Nat → Nat} {A : gA} {n : Nat} {G : gG} (hS : SW E x aa A n G) (hn : n < 600) {w : Int32} (hw : tv n w) : ¬ A 8 (ix w) < 0 := by
  obtain ⟨-, -, -, -, -, -, -, -, h8⟩ := hS.1
  obtain ⟨j, hj, e⟩ := h8 _ (hw.ixle hn).1
  rw [e]
  exact nI_pos (by omega)
theorem SW.cix {E : gE} {x : Nat} {aa : Nat → Nat} {A : gA} {n : Nat} {G : gG} (hS : SW E x aa A n G) (hn : n < 600) {w a k : Int32} (hw : tv n w) (h7 : ¬ A 7 (ix w) < 0) (ha : inb a 0 (A 7 (ix w) - 1) = true) (hk : inb k 0 (A 8 (ix w) - 1) = true) : ∃ a1 b1 j1 j2, a1 < j1 ∧ j1 ≤ 12 ∧ b1 < j2 ∧ j2 ≤ 12 ∧ a = nI a1 ∧ k = nI b1 ∧ A 7 (ix w) = nI j1 ∧ A 8 (ix w) = nI j2 ∧ ix (144 * w + 12 * a + k) = 144 * ix w + 12 * a1 + b1 := by
  obtain ⟨h1, h2⟩ := hw.ixle hn
  obtain ⟨-, -, -, -, -, -, -, g7, g8⟩ := hS.1
  obtain ⟨j2, hj2, q2⟩ := g8 _ h1
  rcases g7 _ h1 with q | ⟨j1, hj1, q1⟩
  · rw [q] at h7; exact absurd (by decide) h7
  · rw [q1] at ha
    rw [q2] at hk
    obtain ⟨a1, ha1, rfl⟩ := inb_lt (by omega) ha
    obtain ⟨b1, hb1, rfl⟩ := inb_lt (by omega) hk
    refine ⟨a1, b1, j1, j2, ha1, hj1, hb1, hj2, rfl, rfl, q1, q2, ?_⟩
    have e3 : (144 : Int32) = nI 144 := rfl
    have e4 : (12 : Int32) = nI 12 := rfl
    rw [h2, e3, e4, pk_mul, pk_mul, nI_add, nI_add, ix_nI (by omega), ix_nI (by omega)]
theorem idx12 {a b w L : Nat} (ha : a < L) (hb : b < w) : a * w + b < L * w := by
  have : (a + 1) * w ≤ L * w := Nat.mul_le_mul_right w (by omega)
  rw [Nat.add_mul] at this
  omega
theorem clf_at {A : gA} {t a b j1 j2 : Nat} (e7 : A 7 t = nI j1) (e8 : A 8 t = nI j2) (ha : a < j1) (hb : b < j2) (h1 : j1 ≤ 12) (h2 : j2 ≤ 12) : clf A t (a * j2 + b) = A 9 (144 * t + 12 * a + b) := by
  unfold clf
  rw [e7, e8, ix_nI (by omega), ix_nI (by omega)]
  have hw : 0 < j2 := by omega
  have d1 : (a * j2 + b) / j2 = a := by rw [Nat.mul_comm, Nat.mul_add_div hw, Nat.div_eq_of_lt hb]; omega
  have d2 : (a * j2 + b) % j2 = b := by rw [Nat.mul_comm, Nat.mul_add_mod, Nat.mod_eq_of_lt hb]
  rw [if_pos (idx12 ha hb), d1, d2]
set_option maxHeartbeats 4000000 in
set_option maxRecDepth 100000 in
theorem c_X2_init (l : Launch) (E : gE) (b0 : Nat) (G : gG) (a ja jb : Nat) (hm : ja * jb ≤ 144) (hG : G a = some (.inr (2, [.int 0, .int 0, .null]))) : gM l yX2_init cX2_init 3 none 1 1 144 E b0 G [.ref a, .int (nI ja), .int (nI jb)] (pV (fun G1 => ∃ q, q ≠ a ∧ G q = none ∧ (∀ p, p ≠ a → p ≠ q → G1 p = G p) ∧ G1 a = some (.inr (2, [.int (nI ja), .int (nI jb), .ref q])) ∧ G1 q = some (.inl (E.2.1, ja * jb, .inl (fun _ => 0))))) := by
  refine gM.of (by decide +kernel) (Nat.le_of_ble_eq_true rfl) ?_
  intro pP eP sP mI bP meth cP ls hx hb hr hml hown hlocks hnm hts hK hI hl
  have hl : lv_has ls 3 [(0, .ref a), (1, .int (nI ja)), (2, .int (nI jb))] := hl
  have hown : sP.vm.findClass RX2 = some mI.cls := hown
  refine lv_aload_n hx hb dX2_init_0 rfl (lv_at hl 0 rfl) ?_
  refine W.objInit hx hb hown (hts _ m_ml_X2_1) (hts _ m_im_objectInit) (hts _ m_co_objectInit) rfl (by rw [hml]; exact hl.1) rfl dX2_init_1 (Nat.le_of_ble_eq_true rfl) (Nat.le_of_ble_eq_true rfl) ?_
  refine W.eq (g2 := F0 mI 4 ls []) rfl ?_
  refine lv_aload_n hx hb dX2_init_4 rfl (lv_at hl 0 rfl) ?_
  refine lv_iload_n hx hb dX2_init_5 rfl (lv_at hl 1 rfl) ?_
  refine g_putF (index := 7) (ci := 2) hx hb hts inlX2 tyX2 tyX2_ok nmX2 hown hK hI hG rfl 0 (by decide) m_fl_X2_7 (fun _ h9 => h9) rfl hnm rfl rfl rfl (Nat.le_of_ble_eq_true rfl) dX2_init_6 (fun H1 L1 hI => ?_)
  refine W.eq (g2 := F0 mI 9 ls []) rfl ?_
  refine lv_aload_n hx hb dX2_init_9 rfl (lv_at hl 0 rfl) ?_
  refine lv_iload_n hx hb dX2_init_10 rfl (lv_at hl 2 rfl) ?_
  refine g_putF (index := 13) (ci := 2) hx hb hts inlX2 tyX2 tyX2_ok nmX2 hown hK hI (gu_s _ _ _) rfl 1 (by decide) m_fl_X2_13 (fun _ h9 => h9) rfl hnm rfl rfl rfl (Nat.le_of_ble_eq_true rfl) dX2_init_11 (fun H1 L1 hI => ?_)
  refine W.eq (g2 := F0 mI 14 ls []) rfl ?_
  refine lv_aload_n hx hb dX2_init_14 rfl (lv_at hl 0 rfl) ?_
  refine lv_iload_n hx hb dX2_init_15 rfl (lv_at hl 1 rfl) ?_
  refine lv_iload_n hx hb dX2_init_16 rfl (lv_at hl 2 rfl) ?_
  refine lv_imul hx hb dX2_init_17 ?_
  refine W.eq (g2 := F0 mI 18 ls [.int (nI (ja * jb)), .ref a]) (by rw [← pk_mul]) ?_
  refine g_newi hx hb hts hK hI (ja * jb) (nI_pos (by omega)) (nI_clamp (by omega)) (by omega) (Nat.le_of_ble_eq_true rfl) (show _ ≤ 144 by omega) m_ac_int dX2_init_18 (fun q H1 hq hI => ?_)
  refine g_putF (index := 16) (ci := 2) hx hb hts inlX2 tyX2 tyX2_ok nmX2 hown hK hI (gu_o hq (gu_s _ _ _)) rfl 2 (by decide) m_fl_X2_16 (fun _ h9 => h9) rfl hnm rfl rfl rfl (Nat.le_of_ble_eq_true rfl) dX2_init_20 (fun H1 L1 hI => ?_)
  refine W.eq (g2 := F0 mI 23 ls []) rfl ?_
  have hqa : q ≠ a := ne_o hq (gu_s _ _ _)
  rw [gu_n hqa, gu_n hqa] at hq
  exact g_vret hx hb hr hlocks hI ⟨rfl, q, hqa, hq, fun p h1 h2 => by rw [gu_n h1, gu_n h2, gu_n h1, gu_n h1], by rw [gu_s]; rfl, by rw [gu_n hqa, gu_s]⟩ dX2_init_23 (by omega) (by omega)
set_option maxHeartbeats 4000000 in
set_option maxRecDepth 100000 in
theorem c_X2_exchange (l : Launch) (E : gE) (b0 : Nat) (G : gG) (a c0 a1 b1 w1 N : Nat) (L v : Int32) (g : Nat → Int32) (hlt : a1 * w1 + b1 < N) (hN : N < 2 ^ 31) (hG : G a = some (.inr (2, [.int L, .int (nI w1), .ref c0]))) (hC : G c0 = some (.inl (E.2.1, N, .inl g))) : gM l yX2_exchange cX2_exchange 6 (some .int) 0 0 0 E b0 G [.ref a, .int (nI a1), .int (nI b1), .int v] (pI (fun v9 G1 => v9 = g (a1 * w1 + b1) ∧ G1 = gu G c0 (.inl (E.2.1, N, .inl (upd g (a1 * w1 + b1) v))))) := by
  refine gM.of (by decide +kernel) (Nat.le_of_ble_eq_true rfl) ?_
  intro pP eP sP mI bP meth cP ls hx hb hr hml hown hlocks hnm hts hK hI hl
  have hl : lv_has ls 6 [(0, .ref a), (1, .int (nI a1)), (2, .int (nI b1)), (3, .int v)] := hl
  have hown : sP.vm.findClass RX2 = some mI.cls := hown
  refine lv_iload_n hx hb dX2_exchange_0 rfl (lv_at hl 1 rfl) ?_
  refine lv_aload_n hx hb dX2_exchange_1 rfl (lv_at hl 0 rfl) ?_
  refine g_get (index := 13) (ci := 2) hx hb hts inlX2 hown hK hI hG rfl 1 (by decide) m_fl_X2_13 (fun _ h9 => h9) rfl dX2_exchange_2 ?_
  refine lv_imul hx hb dX2_exchange_5 ?_
  refine lv_iload_n hx hb dX2_exchange_6 rfl (lv_at hl 2 rfl) ?_
  refine lv_iadd hx hb dX2_exchange_7 ?_
  refine W.eq (g2 := F0 mI 8 ls [.int (nI (a1 * w1 + b1))]) (by rw [pk_mul, nI_add]) ?_
  have hix : Int32.toNatClampNeg (nI (a1 * w1 + b1)) = a1 * w1 + b1 := ix_nI (by omega)
  have hin : vp_in (nI (a1 * w1 + b1)) N := vp_in_nI hlt (by omega)
  refine lv_istore (lv' := [(4, .int (nI (a1 * w1 + b1))), (0, .ref a), (1, .int (nI a1)), (2, .int (nI b1)), (3, .int v)]) hx hb dX2_exchange_8 hl (by decide) rfl (fun ls hl => ?_)
  refine lv_aload_n hx hb dX2_exchange_10 rfl (lv_at hl 1 rfl) ?_
  refine g_get (index := 16) (ci := 2) hx hb hts inlX2 hown hK hI hG rfl 2 (by decide) m_fl_X2_16 (fun _ h9 => h9) rfl dX2_exchange_11 ?_
  refine lv_iload hx hb dX2_exchange_14 (lv_at hl 0 rfl) ?_
  refine g_iald hx hb hK hI hC hin dX2_exchange_16 ?_
  refine W.eq (g2 := F0 mI 17 ls [.int (g (a1 * w1 + b1))]) (by rw [hix]) ?_
  refine lv_istore (lv' := [(5, .int (g (a1 * w1 + b1))), (4, .int (nI (a1 * w1 + b1))), (0, .ref a), (1, .int (nI a1)), (2, .int (nI b1)), (3, .int v)]) hx hb dX2_exchange_17 hl (by decide) rfl (fun ls hl => ?_)
  refine lv_aload_n hx hb dX2_exchange_19 rfl (lv_at hl 2 rfl) ?_
  refine g_get (index := 16) (ci := 2) hx hb hts inlX2 hown hK hI hG rfl 2 (by decide) m_fl_X2_16 (fun _ h9 => h9) rfl dX2_exchange_20 ?_
  refine lv_iload hx hb dX2_exchange_23 (lv_at hl 1 rfl) ?_
  refine lv_iload_n hx hb dX2_exchange_25 rfl (lv_at hl 5 rfl) ?_
  refine g_iast hx hb hK hI hC hin dX2_exchange_26 (fun H1 L1 hI => ?_)
  rw [hix] at hI
  refine lv_iload hx hb dX2_exchange_27 (lv_at hl 0 rfl) ?_
  exact g_iret hx hb hr hlocks hI ⟨_, rfl, rfl, rfl⟩ dX2_exchange_29 (Nat.le_of_ble_eq_true rfl) (Nat.le_of_ble_eq_true rfl)
set_option maxHeartbeats 4000000 in
set_option maxRecDepth 100000 in
theorem c_X10_cell (l : Launch) (E : gE) (b0 : Nat) (G : gG) (x : Nat) (aa : Nat → Nat) (A : gA) (nn : Nat) (hS : SW E x aa A nn G) (hn : nn < 600) (s a k v : Int32) : gM l yX10_cell cX10_cell 7 (some .long) 5 2 160 E b0 G [.ref x, .int s, .int a, .int k, .int v] (pL (fun v9 G1 => v9 = (sp_cell A s a k v).1 ∧ ∃ aa1 n1, n1 ≤ nn + 1 ∧ SW E x aa1 (sp_cell A s a k v).2 n1 G1)) := by
  obtain rfl : aa 0 = x := hS.2.2.1
  refine gM.of (by decide +kernel) (Nat.le_of_ble_eq_true rfl) ?_
  intro pP eP sP mI bP meth cP ls hx hb hr hml hown hlocks hnm hts hK hI hl
  have hl : lv_has ls 7 [(0, .ref (aa 0)), (1, .int s), (2, .int a), (3, .int k), (4, .int v)] := hl
  have hown : sP.vm.findClass RX10 = some mI.cls := hown
  refine lv_iload_n hx hb dX10_cell_0 rfl (lv_at hl 1 rfl) ?_
  refine g_callS (own := RX10) (index := 23) (n := 1) hx hb hml hown hts (c_X10_isShelf l E b0 _ s) m_ml_X10_23 m_st_X10_isShelf m_in_X10 m_co_X10_isShelf (by decide +kernel) ⟨Nat.le_of_ble_eq_true rfl, Nat.le_of_ble_eq_true rfl⟩ ⟨by first | exact Nat.le_of_ble_eq_true rfl | (show _ ≤ 2; omega), by first | exact Nat.le_of_ble_eq_true rfl | (show _ ≤ 160; omega)⟩ rfl hl.1 rfl (Nat.le_of_ble_eq_true rfl) dX10_cell_1 hK hI (fun r G1 H1 L1 hp hI => ?_)
  obtain ⟨v, rfl, hGe, ⟨h_1, rfl⟩ | ⟨h_1, rfl⟩⟩ := hp
  · rw [hGe] at hI
    refine W.eq (g2 := F0 mI 4 ls [.int 1]) rfl ?_
    refine lv_if_ne (tgt := 11) hx hb dX10_cell_4 (by decide) (fun _ => ?_) (fun c_2 => absurd c_2 (by decide))
    refine lv_aload_n hx hb dX10_cell_11 rfl (lv_at hl 0 rfl) ?_
    refine g_get (index := 11) (ci := 8) hx hb hts inlX10 hown hK hI hS.2.2.2.1 rfl 0 (by decide) m_fl_X10_11 (fun _ h9 => h9) rfl dX10_cell_12 ?_
    refine lv_iload_n hx hb dX10_cell_15 rfl (lv_at hl 1 rfl) ?_
    rcases btf (eqb (A 0 (ix s)) 0) with h_3 | h_3
    · have z_4 := fun lo hi => fit_0 (A := A) lo hi h_3
      have t_5 : tv nn (A 0 (ix s)) := (hS.tsh h_1)
      refine g_aald hx hb hK hI 1 hS.2.2.2.2.1 rfl (sh_in h_1) dX10_cell_16 ?_
      refine W.eq (g2 := F0 mI 17 ls [.null]) (by rw [show shf aa A (Int32.toNatClampNeg s) = adr aa (A 0 (ix s)) from shf_at h_1, adr_n h_3]; rfl) ?_
      refine g_callS (own := RX10) (index := 54) (n := 1) hx hb hml hown hts (c_X10_asHive_n l E b0 _) m_ml_X10_54 m_st_X10_asHive m_in_X10 m_co_X10_asHive (by decide +kernel) ⟨Nat.le_of_ble_eq_true rfl, Nat.le_of_ble_eq_true rfl⟩ ⟨by first | exact Nat.le_of_ble_eq_true rfl | (show _ ≤ 2; omega), by first | exact Nat.le_of_ble_eq_true rfl | (show _ ≤ 160; omega)⟩ rfl hl.1 rfl (Nat.le_of_ble_eq_true rfl) dX10_cell_17 hK hI (fun r G1 H1 L1 hp hI => ?_)
      obtain ⟨v, rfl, ev, hGe⟩ := hp
      subst ev
      rw [hGe] at hI
      refine W.eq (g2 := F0 mI 20 ls [.null]) rfl ?_
      refine lv_astoreN (lv' := [(5, .null), (0, .ref (aa 0)), (1, .int s), (2, .int a), (3, .int k), (4, .int v)]) hx hb dX10_cell_20 hl (by decide) rfl (fun ls hl => ?_)
      refine lv_aloadN hx hb dX10_cell_22 (lv_at hl 0 rfl) ?_
      refine lv_ifnullN (tgt := 35) hx hb dX10_cell_24 (by decide) ?_
      refine lv_aload_n hx hb dX10_cell_35 rfl (lv_at hl 1 rfl) ?_
      refine lv_aload_n hx hb dX10_cell_36 rfl (lv_at hl 1 rfl) ?_
      refine g_get (index := 11) (ci := 8) hx hb hts inlX10 hown hK hI hS.2.2.2.1 rfl 0 (by decide) m_fl_X10_11 (fun _ h9 => h9) rfl dX10_cell_37 ?_
      refine lv_iload_n hx hb dX10_cell_40 rfl (lv_at hl 2 rfl) ?_
      refine g_aald hx hb hK hI 1 hS.2.2.2.2.1 rfl (sh_in h_1) dX10_cell_41 ?_
      refine W.eq (g2 := F0 mI 42 ls [.null, .ref (aa 0)]) (by rw [show shf aa A (Int32.toNatClampNeg s) = adr aa (A 0 (ix s)) from shf_at h_1, adr_n h_3]; rfl) ?_
      refine g_callS (own := RX10) (index := 66) (n := 1) hx hb hml hown hts (c_X10_castOrNull_n l E b0 _) m_ml_X10_66 m_st_X10_castOrNull m_in_X10 m_co_X10_castOrNull (by decide +kernel) ⟨Nat.le_of_ble_eq_true rfl, Nat.le_of_ble_eq_true rfl⟩ ⟨by first | exact Nat.le_of_ble_eq_true rfl | (show _ ≤ 2; omega), by first | exact Nat.le_of_ble_eq_true rfl | (show _ ≤ 160; omega)⟩ rfl hl.1 rfl (Nat.le_of_ble_eq_true rfl) dX10_cell_42 hK hI (fun r G1 H1 L1 hp hI => ?_)
      obtain ⟨v, rfl, ev, hGe⟩ := hp
      subst ev
      rw [hGe] at hI
      refine W.eq (g2 := F0 mI 45 ls [.int 1, .ref (aa 0)]) rfl ?_
      refine g_callV (own := RX10) (index := 96) (n := 1) hx hb hml hown hts (c_X10_refuseLong l E b0 _ _ aa _ nn hS hn 1 (vp_in_iff.mpr (by decide))) hS.2.2.2.1 rfl rfl m_ml_X10_96 m_im_X10_refuseLong m_se_X10_X10_refuseLong_X10_refuseLong m_in_X10 m_co_X10_refuseLong (by decide +kernel) ⟨Nat.le_of_ble_eq_true rfl, Nat.le_of_ble_eq_true rfl⟩ ⟨by first | exact Nat.le_of_ble_eq_true rfl | (show _ ≤ 2; omega), by first | exact Nat.le_of_ble_eq_true rfl | (show _ ≤ 160; omega)⟩ rfl hl.1 rfl (Nat.le_of_ble_eq_true rfl) dX10_cell_45 hK hI (fun r G1 H1 L1 hp hI => ?_)
      obtain ⟨v, rfl, ev, hS⟩ := hp
      subst ev
      refine W.eq (g2 := F0 mI 48 ls [.long (-9223372036854775708 + ((-10 - 1) : Int32).toInt64)]) rfl ?_
      have e9 : sp_cell A s a k v = ((-9223372036854775708 + ((-10 - 1) : Int32).toInt64), (rfs A 1)) := by
        simp only [sp_cell, rfi, rfj, wHv, wRw, wSl, h_1, h_3, z_4, eqb_00, eqb_10, eqb_20, eqb_30, eqb_50, eqb_11, eqb_21, reduceIte, Bool.false_eq_true, not_true_eq_false, not_false_eq_true, ite_self]
      exact g_lret hx hb hr hlocks hI ⟨_, rfl, by rw [e9], aa, nn, by omega, by rw [e9]; exact hS⟩ dX10_cell_48 (by omega) (by omega)
    · have _ := 0
      have t_6 : tv nn (A 0 (ix s)) := (hS.tsh h_1)
      refine g_aald hx hb hK hI 1 hS.2.2.2.2.1 rfl (sh_in h_1) dX10_cell_16 ?_
      refine W.eq (g2 := F0 mI 17 ls [.ref (aa (4 * ix (A 0 (ix s))))]) (by rw [show shf aa A (Int32.toNatClampNeg s) = adr aa (A 0 (ix s)) from shf_at h_1, adr_s h_3]; rfl) ?_
      rcases btf (fit A (A 0 (ix s)) 6 7) with h_7 | h_7
      · have _ := 0
        refine g_callS (own := RX10) (index := 54) (n := 1) hx hb hml hown hts (c_X10_asHive_y l E b0 _ (aa (4 * ix (A 0 (ix s)))) _ _ (hS.at hn t_6 h_3) (cix_in _) (hS.gs hn t_6 h_3 5 (by decide) h_7)) m_ml_X10_54 m_st_X10_asHive m_in_X10 m_co_X10_asHive (by decide +kernel) ⟨Nat.le_of_ble_eq_true rfl, Nat.le_of_ble_eq_true rfl⟩ ⟨by first | exact Nat.le_of_ble_eq_true rfl | (show _ ≤ 2; omega), by first | exact Nat.le_of_ble_eq_true rfl | (show _ ≤ 160; omega)⟩ rfl hl.1 rfl (Nat.le_of_ble_eq_true rfl) dX10_cell_17 hK hI (fun r G1 H1 L1 hp hI => ?_)
        obtain ⟨v, rfl, ev, hGe⟩ := hp
        subst ev
        rw [hGe] at hI
        refine W.eq (g2 := F0 mI 20 ls [.ref (aa (4 * ix (A 0 (ix s))))]) rfl ?_
        refine lv_astore (lv' := [(5, .ref (aa (4 * ix (A 0 (ix s))))), (0, .ref (aa 0)), (1, .int s), (2, .int a), (3, .int k), (4, .int v)]) hx hb dX10_cell_20 hl (by decide) rfl (fun ls hl => ?_)
        refine lv_aload hx hb dX10_cell_22 (lv_at hl 0 rfl) ?_
        refine lv_ifnull hx hb dX10_cell_24 ?_
        refine lv_aload hx hb dX10_cell_27 (lv_at hl 0 rfl) ?_
        rcases Classical.em ((A 7 (ix (A 0 (ix s)))) < 0) with h_8 | h_8
        · have _ := 0
          refine g_get (index := 74) (ci := 5) hx hb hts inlX5 hown hK hI (hS.hv hn t_6 h_3 h_7) rfl 2 (by decide) m_fl_X10_74 (fun _ h9 => h9) rfl dX10_cell_29 ?_
          refine W.eq (g2 := F0 mI 32 ls [.null]) (by rw [cbo_n h_8]; rfl) ?_
          refine lv_ifnonnullN hx hb dX10_cell_32 ?_
          refine lv_aload_n hx hb dX10_cell_35 rfl (lv_at hl 1 rfl) ?_
          refine lv_aload_n hx hb dX10_cell_36 rfl (lv_at hl 1 rfl) ?_
          refine g_get (index := 11) (ci := 8) hx hb hts inlX10 hown hK hI hS.2.2.2.1 rfl 0 (by decide) m_fl_X10_11 (fun _ h9 => h9) rfl dX10_cell_37 ?_
          refine lv_iload_n hx hb dX10_cell_40 rfl (lv_at hl 2 rfl) ?_
          refine g_aald hx hb hK hI 1 hS.2.2.2.2.1 rfl (sh_in h_1) dX10_cell_41 ?_
          refine W.eq (g2 := F0 mI 42 ls [.ref (aa (4 * ix (A 0 (ix s)))), .ref (aa 0)]) (by rw [show shf aa A (Int32.toNatClampNeg s) = adr aa (A 0 (ix s)) from shf_at h_1, adr_s h_3]; rfl) ?_
          refine g_callS (own := RX10) (index := 66) (n := 1) hx hb hml hown hts (c_X10_castOrNull_y l E b0 _ (aa (4 * ix (A 0 (ix s)))) _ _ (hS.at hn t_6 h_3) (cix_in _) (hS.gs hn t_6 h_3 5 (by decide) h_7)) m_ml_X10_66 m_st_X10_castOrNull m_in_X10 m_co_X10_castOrNull (by decide +kernel) ⟨Nat.le_of_ble_eq_true rfl, Nat.le_of_ble_eq_true rfl⟩ ⟨by first | exact Nat.le_of_ble_eq_true rfl | (show _ ≤ 2; omega), by first | exact Nat.le_of_ble_eq_true rfl | (show _ ≤ 160; omega)⟩ rfl hl.1 rfl (Nat.le_of_ble_eq_true rfl) dX10_cell_42 hK hI (fun r G1 H1 L1 hp hI => ?_)
          obtain ⟨v, rfl, ev, hGe⟩ := hp
          subst ev
          rw [hGe] at hI
          refine W.eq (g2 := F0 mI 45 ls [.int 1, .ref (aa 0)]) rfl ?_
          refine g_callV (own := RX10) (index := 96) (n := 1) hx hb hml hown hts (c_X10_refuseLong l E b0 _ _ aa _ nn hS hn 1 (vp_in_iff.mpr (by decide))) hS.2.2.2.1 rfl rfl m_ml_X10_96 m_im_X10_refuseLong m_se_X10_X10_refuseLong_X10_refuseLong m_in_X10 m_co_X10_refuseLong (by decide +kernel) ⟨Nat.le_of_ble_eq_true rfl, Nat.le_of_ble_eq_true rfl⟩ ⟨by first | exact Nat.le_of_ble_eq_true rfl | (show _ ≤ 2; omega), by first | exact Nat.le_of_ble_eq_true rfl | (show _ ≤ 160; omega)⟩ rfl hl.1 rfl (Nat.le_of_ble_eq_true rfl) dX10_cell_45 hK hI (fun r G1 H1 L1 hp hI => ?_)
          obtain ⟨v, rfl, ev, hS⟩ := hp
          subst ev
          refine W.eq (g2 := F0 mI 48 ls [.long (-9223372036854775708 + ((-10 - 1) : Int32).toInt64)]) rfl ?_
          have e9 : sp_cell A s a k v = ((-9223372036854775708 + ((-10 - 1) : Int32).toInt64), (rfs A 1)) := by
            simp only [sp_cell, rfi, rfj, wHv, wRw, wSl, h_1, h_3, h_7, h_8, eqb_00, eqb_10, eqb_20, eqb_30, eqb_50, eqb_11, eqb_21, reduceIte, Bool.false_eq_true, not_true_eq_false, not_false_eq_true, ite_self]
          exact g_lret hx hb hr hlocks hI ⟨_, rfl, by rw [e9], aa, nn, by omega, by rw [e9]; exact hS⟩ dX10_cell_48 (by omega) (by omega)
        · have _ := 0
          refine g_get (index := 74) (ci := 5) hx hb hts inlX5 hown hK hI (hS.hv hn t_6 h_3 h_7) rfl 2 (by decide) m_fl_X10_74 (fun _ h9 => h9) rfl dX10_cell_29 ?_
          refine W.eq (g2 := F0 mI 32 ls [.ref (aa (4 * ix (A 0 (ix s)) + 2))]) (by rw [cbo_s h_8]; rfl) ?_
          refine lv_ifnonnull (tgt := 49) hx hb dX10_cell_32 (by decide) ?_
          refine lv_aload hx hb dX10_cell_49 (lv_at hl 0 rfl) ?_
          refine g_get (index := 74) (ci := 5) hx hb hts inlX5 hown hK hI (hS.hv hn t_6 h_3 h_7) rfl 2 (by decide) m_fl_X10_74 (fun _ h9 => h9) rfl dX10_cell_51 ?_
          refine W.eq (g2 := F0 mI 54 ls [.ref (aa (4 * ix (A 0 (ix s)) + 2))]) (by rw [cbo_s h_8]; rfl) ?_
          refine lv_astore (lv' := [(6, .ref (aa (4 * ix (A 0 (ix s)) + 2))), (5, .ref (aa (4 * ix (A 0 (ix s))))), (0, .ref (aa 0)), (1, .int s), (2, .int a), (3, .int k), (4, .int v)]) hx hb dX10_cell_54 hl (by decide) rfl (fun ls hl => ?_)
          refine lv_iload_n hx hb dX10_cell_56 rfl (lv_at hl 4 rfl) ?_
          refine lv_aload hx hb dX10_cell_57 (lv_at hl 0 rfl) ?_
          refine g_get (index := 138) (ci := 2) hx hb hts inlX2 hown hK hI (hS.cb hn t_6 h_3 h_8) rfl 0 (by decide) m_fl_X10_138 (fun _ h9 => h9) rfl dX10_cell_59 ?_
          refine g_callS (own := RX10) (index := 82) (n := 2) hx hb hml hown hts (c_X10_isIndex l E b0 _ a (A 7 (ix (A 0 (ix s)))) h_8) m_ml_X10_82 m_st_X10_isIndex m_in_X10 m_co_X10_isIndex (by decide +kernel) ⟨Nat.le_of_ble_eq_true rfl, Nat.le_of_ble_eq_true rfl⟩ ⟨by first | exact Nat.le_of_ble_eq_true rfl | (show _ ≤ 2; omega), by first | exact Nat.le_of_ble_eq_true rfl | (show _ ≤ 160; omega)⟩ rfl hl.1 rfl (Nat.le_of_ble_eq_true rfl) dX10_cell_62 hK hI (fun r G1 H1 L1 hp hI => ?_)
          obtain ⟨v, rfl, hGe, ⟨h_9, rfl⟩ | ⟨h_9, rfl⟩⟩ := hp
          · rw [hGe] at hI
            refine W.eq (g2 := F0 mI 65 ls [.int 1]) rfl ?_
            refine lv_if_eq (tgt := 80) hx hb dX10_cell_65 (by decide) (fun c_10 => absurd c_10 (by decide)) (fun _ => ?_)
            refine lv_iload_n hx hb dX10_cell_68 rfl (lv_at hl 5 rfl) ?_
            refine lv_aload hx hb dX10_cell_69 (lv_at hl 0 rfl) ?_
            refine g_get (index := 141) (ci := 2) hx hb hts inlX2 hown hK hI (hS.cb hn t_6 h_3 h_8) rfl 1 (by decide) m_fl_X10_141 (fun _ h9 => h9) rfl dX10_cell_71 ?_
            refine g_callS (own := RX10) (index := 82) (n := 2) hx hb hml hown hts (c_X10_isIndex l E b0 _ k (A 8 (ix (A 0 (ix s)))) (hS.pos8 hn t_6)) m_ml_X10_82 m_st_X10_isIndex m_in_X10 m_co_X10_isIndex (by decide +kernel) ⟨Nat.le_of_ble_eq_true rfl, Nat.le_of_ble_eq_true rfl⟩ ⟨by first | exact Nat.le_of_ble_eq_true rfl | (show _ ≤ 2; omega), by first | exact Nat.le_of_ble_eq_true rfl | (show _ ≤ 160; omega)⟩ rfl hl.1 rfl (Nat.le_of_ble_eq_true rfl) dX10_cell_74 hK hI (fun r G1 H1 L1 hp hI => ?_)
            obtain ⟨v, rfl, hGe, ⟨h_11, rfl⟩ | ⟨h_11, rfl⟩⟩ := hp
            · rw [hGe] at hI
              refine W.eq (g2 := F0 mI 77 ls [.int 1]) rfl ?_
              refine lv_if_ne (tgt := 86) hx hb dX10_cell_77 (by decide) (fun _ => ?_) (fun c_12 => absurd c_12 (by decide))
              refine lv_aload hx hb dX10_cell_86 (lv_at hl 0 rfl) ?_
              refine lv_iload_n hx hb dX10_cell_88 rfl (lv_at hl 4 rfl) ?_
              refine lv_iload_n hx hb dX10_cell_89 rfl (lv_at hl 5 rfl) ?_
              refine lv_iload hx hb dX10_cell_90 (lv_at hl 6 rfl) ?_
              obtain ⟨a1, b1, j1, j2, p1, p2, p3, p4, p5, p6, p7, p8, p9⟩ := hS.cix hn t_6 h_8 h_9 h_11
              have hC := hS.cd hn t_6 h_3 h_8
              have hB := hS.cb hn t_6 h_3 h_8
              have l1 : ix (A 7 (ix (A 0 (ix s)))) = j1 := by rw [p7, ix_nI (by omega)]
              have l2 : ix (A 8 (ix (A 0 (ix s)))) = j2 := by rw [p8, ix_nI (by omega)]
              have pj : j1 * j2 ≤ 12 * 12 := Nat.mul_le_mul p2 p4
              have ht := hS.pcl (ix (A 0 (ix s))) a1 b1 (t_6.pos hn h_3) (t_6.ixle hn).1 h_8 (by omega) (by omega) (by omega) (by omega) v
              rw [l1, l2, ← p9] at ht
              simp only [clc, l1, l2] at hC
              refine W.eq (g2 := F0 mI 92 ls [.int v, .int (nI b1), .int (nI a1), .ref (aa (4 * ix (A 0 (ix s)) + 2))]) (by rw [← p5, ← p6]) ?_
              have hB2 : G (aa (4 * ix (A 0 (ix s)) + 2)) = some (.inr (2, [.int (A 7 (ix (A 0 (ix s)))), .int (nI j2), .ref (aa (4 * ix (A 0 (ix s)) + 3))])) := by rw [hB]; simp only [cbc, p8]
              refine g_callV (own := RX10) (index := 144) (n := 3) hx hb hml hown hts (c_X2_exchange l E b0 _ _ _ a1 b1 j2 (j1 * j2) _ v (clf A (ix (A 0 (ix s)))) (idx12 p1 p3) (by omega) hB2 hC) hB rfl rfl m_ml_X10_144 m_im_X2_exchange m_se_X2_X2_exchange_X2_exchange m_in_X2 m_co_X2_exchange (by decide +kernel) ⟨Nat.le_of_ble_eq_true rfl, Nat.le_of_ble_eq_true rfl⟩ ⟨by first | exact Nat.le_of_ble_eq_true rfl | (show _ ≤ 2; omega), by first | exact Nat.le_of_ble_eq_true rfl | (show _ ≤ 160; omega)⟩ rfl hl.1 rfl (Nat.le_of_ble_eq_true rfl) dX10_cell_92 hK hI (fun r G1 H1 L1 hp hI => ?_)
              obtain ⟨v8, rfl, ev, hGe⟩ := hp
              rw [hGe] at hI
              have hS := ht
              rw [clf_at p7 p8 p1 p3 p2 p4, ← p9] at ev
              subst ev
              refine W.eq (g2 := F0 mI 95 ls [.int (A 9 (ix (((144 * (A 0 (ix s))) + (12 * a)) + k)))]) rfl ?_
              refine lv_i2l hx hb dX10_cell_95 rfl ?_
              have e9 : sp_cell A s a k v = ((((A 9 (ix (((144 * (A 0 (ix s))) + (12 * a)) + k))) : Int32).toInt64), (u2 A 9 (ix (((144 * (A 0 (ix s))) + (12 * a)) + k)) v)) := by
                simp only [sp_cell, rfi, rfj, wHv, wRw, wSl, h_1, h_3, h_7, h_8, h_9, h_11, eqb_00, eqb_10, eqb_20, eqb_30, eqb_50, eqb_11, eqb_21, reduceIte, Bool.false_eq_true, not_true_eq_false, not_false_eq_true, ite_self]
              exact g_lret hx hb hr hlocks hI ⟨_, rfl, by rw [e9], aa, nn, by omega, by rw [e9]; exact hS⟩ dX10_cell_96 (by omega) (by omega)
            · rw [hGe] at hI
              refine W.eq (g2 := F0 mI 77 ls [.int 0]) rfl ?_
              refine lv_if_ne (tgt := 86) hx hb dX10_cell_77 (by decide) (fun c_13 => absurd c_13 (by decide)) (fun _ => ?_)
              refine lv_aload_n hx hb dX10_cell_80 rfl (lv_at hl 2 rfl) ?_
              refine lv_iconst (v := 3) hx hb dX10_cell_81 (by decide) ?_
              refine g_callV (own := RX10) (index := 96) (n := 1) hx hb hml hown hts (c_X10_refuseLong l E b0 _ _ aa _ nn hS hn 3 (vp_in_iff.mpr (by decide))) hS.2.2.2.1 rfl rfl m_ml_X10_96 m_im_X10_refuseLong m_se_X10_X10_refuseLong_X10_refuseLong m_in_X10 m_co_X10_refuseLong (by decide +kernel) ⟨Nat.le_of_ble_eq_true rfl, Nat.le_of_ble_eq_true rfl⟩ ⟨by first | exact Nat.le_of_ble_eq_true rfl | (show _ ≤ 2; omega), by first | exact Nat.le_of_ble_eq_true rfl | (show _ ≤ 160; omega)⟩ rfl hl.1 rfl (Nat.le_of_ble_eq_true rfl) dX10_cell_82 hK hI (fun r G1 H1 L1 hp hI => ?_)
              obtain ⟨v, rfl, ev, hS⟩ := hp
              subst ev
              refine W.eq (g2 := F0 mI 85 ls [.long (-9223372036854775708 + ((-10 - 3) : Int32).toInt64)]) rfl ?_
              have e9 : sp_cell A s a k v = ((-9223372036854775708 + ((-10 - 3) : Int32).toInt64), (rfs A 3)) := by
                simp only [sp_cell, rfi, rfj, wHv, wRw, wSl, h_1, h_3, h_7, h_8, h_9, h_11, eqb_00, eqb_10, eqb_20, eqb_30, eqb_50, eqb_11, eqb_21, reduceIte, Bool.false_eq_true, not_true_eq_false, not_false_eq_true, ite_self]
              exact g_lret hx hb hr hlocks hI ⟨_, rfl, by rw [e9], aa, nn, by omega, by rw [e9]; exact hS⟩ dX10_cell_85 (by omega) (by omega)
          · rw [hGe] at hI
            refine W.eq (g2 := F0 mI 65 ls [.int 0]) rfl ?_
            refine lv_if_eq (tgt := 80) hx hb dX10_cell_65 (by decide) (fun _ => ?_) (fun c_14 => absurd c_14 (by decide))
            refine lv_aload_n hx hb dX10_cell_80 rfl (lv_at hl 2 rfl) ?_
            refine lv_iconst (v := 3) hx hb dX10_cell_81 (by decide) ?_
            refine g_callV (own := RX10) (index := 96) (n := 1) hx hb hml hown hts (c_X10_refuseLong l E b0 _ _ aa _ nn hS hn 3 (vp_in_iff.mpr (by decide))) hS.2.2.2.1 rfl rfl m_ml_X10_96 m_im_X10_refuseLong m_se_X10_X10_refuseLong_X10_refuseLong m_in_X10 m_co_X10_refuseLong (by decide +kernel) ⟨Nat.le_of_ble_eq_true rfl, Nat.le_of_ble_eq_true rfl⟩ ⟨by first | exact Nat.le_of_ble_eq_true rfl | (show _ ≤ 2; omega), by first | exact Nat.le_of_ble_eq_true rfl | (show _ ≤ 160; omega)⟩ rfl hl.1 rfl (Nat.le_of_ble_eq_true rfl) dX10_cell_82 hK hI (fun r G1 H1 L1 hp hI => ?_)
            obtain ⟨v, rfl, ev, hS⟩ := hp
            subst ev
            refine W.eq (g2 := F0 mI 85 ls [.long (-9223372036854775708 + ((-10 - 3) : Int32).toInt64)]) rfl ?_
            have e9 : sp_cell A s a k v = ((-9223372036854775708 + ((-10 - 3) : Int32).toInt64), (rfs A 3)) := by
              simp only [sp_cell, rfi, rfj, wHv, wRw, wSl, h_1, h_3, h_7, h_8, h_9, eqb_00, eqb_10, eqb_20, eqb_30, eqb_50, eqb_11, eqb_21, reduceIte, Bool.false_eq_true, not_true_eq_false, not_false_eq_true, ite_self]
            exact g_lret hx hb hr hlocks hI ⟨_, rfl, by rw [e9], aa, nn, by omega, by rw [e9]; exact hS⟩ dX10_cell_85 (by omega) (by omega)
      · have _ := 0
        refine g_callS (own := RX10) (index := 54) (n := 1) hx hb hml hown hts (c_X10_asHive_f l E b0 _ (aa (4 * ix (A 0 (ix s)))) _ _ (hS.at hn t_6 h_3) (cix_in _) (hS.gs hn t_6 h_3 5 (by decide) h_7)) m_ml_X10_54 m_st_X10_asHive m_in_X10 m_co_X10_asHive (by decide +kernel) ⟨Nat.le_of_ble_eq_true rfl, Nat.le_of_ble_eq_true rfl⟩ ⟨by first | exact Nat.le_of_ble_eq_true rfl | (show _ ≤ 2; omega), by first | exact Nat.le_of_ble_eq_true rfl | (show _ ≤ 160; omega)⟩ rfl hl.1 rfl (Nat.le_of_ble_eq_true rfl) dX10_cell_17 hK hI (fun r G1 H1 L1 hp hI => ?_)
        obtain ⟨v, rfl, ev, hGe⟩ := hp
        subst ev
        rw [hGe] at hI
        refine W.eq (g2 := F0 mI 20 ls [.null]) rfl ?_
        refine lv_astoreN (lv' := [(5, .null), (0, .ref (aa 0)), (1, .int s), (2, .int a), (3, .int k), (4, .int v)]) hx hb dX10_cell_20 hl (by decide) rfl (fun ls hl => ?_)
        refine lv_aloadN hx hb dX10_cell_22 (lv_at hl 0 rfl) ?_
        refine lv_ifnullN (tgt := 35) hx hb dX10_cell_24 (by decide) ?_
        refine lv_aload_n hx hb dX10_cell_35 rfl (lv_at hl 1 rfl) ?_
        refine lv_aload_n hx hb dX10_cell_36 rfl (lv_at hl 1 rfl) ?_
        refine g_get (index := 11) (ci := 8) hx hb hts inlX10 hown hK hI hS.2.2.2.1 rfl 0 (by decide) m_fl_X10_11 (fun _ h9 => h9) rfl dX10_cell_37 ?_
        refine lv_iload_n hx hb dX10_cell_40 rfl (lv_at hl 2 rfl) ?_
        refine g_aald hx hb hK hI 1 hS.2.2.2.2.1 rfl (sh_in h_1) dX10_cell_41 ?_
        refine W.eq (g2 := F0 mI 42 ls [.ref (aa (4 * ix (A 0 (ix s)))), .ref (aa 0)]) (by rw [show shf aa A (Int32.toNatClampNeg s) = adr aa (A 0 (ix s)) from shf_at h_1, adr_s h_3]; rfl) ?_
        refine g_callS (own := RX10) (index := 66) (n := 1) hx hb hml hown hts (c_X10_castOrNull_f l E b0 _ (aa (4 * ix (A 0 (ix s)))) _ _ (hS.at hn t_6 h_3) (cix_in _) (hS.gs hn t_6 h_3 5 (by decide) h_7)) m_ml_X10_66 m_st_X10_castOrNull m_in_X10 m_co_X10_castOrNull (by decide +kernel) ⟨Nat.le_of_ble_eq_true rfl, Nat.le_of_ble_eq_true rfl⟩ ⟨by first | exact Nat.le_of_ble_eq_true rfl | (show _ ≤ 2; omega), by first | exact Nat.le_of_ble_eq_true rfl | (show _ ≤ 160; omega)⟩ rfl hl.1 rfl (Nat.le_of_ble_eq_true rfl) dX10_cell_42 hK hI (fun r G1 H1 L1 hp hI => ?_)
        obtain ⟨v, rfl, ev, hGe⟩ := hp
        subst ev
        rw [hGe] at hI
        refine W.eq (g2 := F0 mI 45 ls [.int 5, .ref (aa 0)]) rfl ?_
        refine g_callV (own := RX10) (index := 96) (n := 1) hx hb hml hown hts (c_X10_refuseLong l E b0 _ _ aa _ nn hS hn 5 (vp_in_iff.mpr (by decide))) hS.2.2.2.1 rfl rfl m_ml_X10_96 m_im_X10_refuseLong m_se_X10_X10_refuseLong_X10_refuseLong m_in_X10 m_co_X10_refuseLong (by decide +kernel) ⟨Nat.le_of_ble_eq_true rfl, Nat.le_of_ble_eq_true rfl⟩ ⟨by first | exact Nat.le_of_ble_eq_true rfl | (show _ ≤ 2; omega), by first | exact Nat.le_of_ble_eq_true rfl | (show _ ≤ 160; omega)⟩ rfl hl.1 rfl (Nat.le_of_ble_eq_true rfl) dX10_cell_45 hK hI (fun r G1 H1 L1 hp hI => ?_)
        obtain ⟨v, rfl, ev, hS⟩ := hp
        subst ev
        refine W.eq (g2 := F0 mI 48 ls [.long (-9223372036854775708 + ((-10 - 5) : Int32).toInt64)]) rfl ?_
        have e9 : sp_cell A s a k v = ((-9223372036854775708 + ((-10 - 5) : Int32).toInt64), (rfs A 5)) := by
          simp only [sp_cell, rfi, rfj, wHv, wRw, wSl, h_1, h_3, h_7, eqb_00, eqb_10, eqb_20, eqb_30, eqb_50, eqb_11, eqb_21, reduceIte, Bool.false_eq_true, not_true_eq_false, not_false_eq_true, ite_self]
        exact g_lret hx hb hr hlocks hI ⟨_, rfl, by rw [e9], aa, nn, by omega, by rw [e9]; exact hS⟩ dX10_cell_48 (by omega) (by omega)
  · rw [hGe] at hI
    refine W.eq (g2 := F0 mI 4 ls [.int 0]) rfl ?_
    refine lv_if_ne (tgt := 11) hx hb dX10_cell_4 (by decide) (fun c_15 => absurd c_15 (by decide)) (fun _ => ?_)
    refine lv_ldc2 hx hb hown (hts _ m_kl_X10_94) dX10_cell_7 ?_
    have e9 : sp_cell A s a k v = ((-9223372036854775808), A) := by
      simp only [sp_cell, rfi, rfj, wHv, wRw, wSl, h_1, eqb_00, eqb_10, eqb_20, eqb_30, eqb_50, eqb_11, eqb_21, reduceIte, Bool.false_eq_true, not_true_eq_false, not_false_eq_true, ite_self]
    exact g_lret hx hb hr hlocks hI ⟨_, rfl, by rw [e9], aa, nn, by omega, by rw [e9]; exact hS⟩ dX10_cell_10 (by omega) (by omega)
