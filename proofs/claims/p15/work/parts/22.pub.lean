theorem glit2 {w : Int32} (h1 : ¬ w < 0) (h2 : ¬ 2 < w) : w = 0 ∨ w = 1 ∨ w = 2 := by
  obtain ⟨j, hj, rfl⟩ := nI_of h1
  have e : (2 : Int32) = nI 2 := rfl
  rw [e, nI_ltI (by omega) hj] at h2
  have : j = 0 ∨ j = 1 ∨ j = 2 := by omega
  rcases this with rfl | rfl | rfl <;> decide
theorem glit5 {w : Int32} (h1 : ¬ w < 0) (h2 : ¬ 5 < w) : w = 0 ∨ w = 1 ∨ w = 2 ∨ w = 3 ∨ w = 4 ∨ w = 5 := by
  obtain ⟨j, hj, rfl⟩ := nI_of h1
  have e : (5 : Int32) = nI 5 := rfl
  rw [e, nI_ltI (by omega) hj] at h2
  have : j = 0 ∨ j = 1 ∨ j = 2 ∨ j = 3 ∨ j = 4 ∨ j = 5 := by omega
  rcases this with rfl | rfl | rfl | rfl | rfl | rfl <;> decide
theorem glit7 {w : Int32} (h1 : ¬ w < 0) (h2 : ¬ 7 < w) : w = 0 ∨ w = 1 ∨ w = 2 ∨ w = 3 ∨ w = 4 ∨ w = 5 ∨ w = 6 ∨ w = 7 := by
  obtain ⟨j, hj, rfl⟩ := nI_of h1
  have e : (7 : Int32) = nI 7 := rfl
  rw [e, nI_ltI (by omega) hj] at h2
  have : j = 0 ∨ j = 1 ∨ j = 2 ∨ j = 3 ∨ j = 4 ∨ j = 5 ∨ j = 6 ∨ j = 7 := by omega
  rcases this with rfl | rfl | rfl | rfl | rfl | rfl | rfl | rfl <;> decide
theorem gu_o {G : gG} {q a : Nat} {x y : va_E} (hq : G q = none) (h : G a = some y) : gu G q x a = some y := by
  rw [gu_n (fun z => by rw [z, hq] at h; cases h), h]
theorem ne_o {G : gG} {q a : Nat} {y : va_E} (hq : G q = none) (h : G a = some y) : q ≠ a := fun z => by rw [z, h] at hq; cases hq
theorem n30 {n : Int32} {N : Nat} (h1 : ¬ n < 0) (h2 : ¬ nI N < n) (hN : N < 2 ^ 31) : ∃ j, j ≤ N ∧ n = nI j := by
  obtain ⟨j, hj, rfl⟩ := nI_of h1
  rw [nI_ltI hN hj] at h2
  exact ⟨j, by omega, rfl⟩
theorem hvf_u {aa : Nat → Nat} {A : gA} {t : Nat} (r : Nat) (V : Int32) (h : inb (A 2 t) 6 7 = true) (hk : ∃ k, k ≤ 7 ∧ A 2 t = nI k) (hr : r = 10 ∨ r = 11 ∨ r = 12) : (.inr (5, (hvf aa A t).set (r - 7) (va_rf (adr aa V))) : va_E) = thc aa (u2 A r t V) t := by
  rw [thc_hive (A := u2 A r t V) (by rw [u2_ne (by rcases hr with rfl | rfl | rfl <;> decide)]; exact h) (by rw [u2_ne (by rcases hr with rfl | rfl | rfl <;> decide)]; exact hk)]
  rcases hr with rfl | rfl | rfl <;> simp [hvf, rwo, cbo, u2]
theorem p9y {aa : Nat → Nat} {A : gA} {t q j : Nat} (hj : j ≤ 30) (h : inb (A 2 t) 6 7 = true) (hk : ∃ k, k ≤ 7 ∧ A 2 t = nI k) : (.inr (5, (hvf aa A t).set 1 (.ref q)) : va_E) = thc (va_up aa (4 * t + 1) q) (z2 (u2 A 5 t (nI j)) 6 (30 * t) 30) t := by
  have e : ∀ k, k ≠ 5 → k ≠ 6 → z2 (u2 A 5 t (nI j)) 6 (30 * t) 30 k = A k := fun k h1 h2 => by rw [z2_ne h2, u2_ne h1]
  have e5 : z2 (u2 A 5 t (nI j)) 6 (30 * t) 30 5 t = nI j := by rw [z2_ne (by decide), u2_hit]
  rw [thc_hive (A := z2 (u2 A 5 t (nI j)) 6 (30 * t) 30) (by rw [e 2 (by decide) (by decide)]; exact h) (by rw [e 2 (by decide) (by decide)]; exact hk)]
  have hr : rwo (va_up aa (4 * t + 1) q) (z2 (u2 A 5 t (nI j)) 6 (30 * t) 30) t = some q := by rw [rwo_s (by rw [e5]; exact nI_pos (by omega)), va_up_self]
  unfold hvf
  rw [hr, e 2 (by decide) (by decide), e 10 (by decide) (by decide), e 11 (by decide) (by decide), e 12 (by decide) (by decide), adr_up (by omega), adr_up (by omega), adr_up (by omega)]
  have : cbo (va_up aa (4 * t + 1) q) (z2 (u2 A 5 t (nI j)) 6 (30 * t) 30) t = cbo aa A t := by
    unfold cbo
    rw [e 7 (by decide) (by decide), va_up_ne _ _ (by omega)]
  rw [this]
  rfl
set_option maxHeartbeats 4000000 in
set_option maxRecDepth 100000 in
theorem c_X10_give (l : Launch) (E : gE) (b0 : Nat) (G : gG) (x : Nat) (aa : Nat → Nat) (A : gA) (nn : Nat) (hS : SW E x aa A nn G) (hn : nn < 600) (s w f : Int32) : gM l yX10_give cX10_give 6 (some .int) 5 2 160 E b0 G [.ref x, .int s, .int w, .int f] (pI (fun v9 G1 => v9 = (sp_give A s w f).1 ∧ ∃ aa1 n1, n1 ≤ nn + 1 ∧ SW E x aa1 (sp_give A s w f).2 n1 G1)) := by
  obtain rfl : aa 0 = x := hS.2.2.1
  refine gM.of (by decide +kernel) (Nat.le_of_ble_eq_true rfl) ?_
  intro pP eP sP mI bP meth cP ls hx hb hr hml hown hlocks hnm hts hK hI hl
  have hl : lv_has ls 6 [(0, .ref (aa 0)), (1, .int s), (2, .int w), (3, .int f)] := hl
  have hown : sP.vm.findClass RX10 = some mI.cls := hown
  refine lv_iload_n hx hb dX10_give_0 rfl (lv_at hl 1 rfl) ?_
  refine g_callS (own := RX10) (index := 23) (n := 1) hx hb hml hown hts (c_X10_isShelf l E b0 _ s) m_ml_X10_23 m_st_X10_isShelf m_in_X10 m_co_X10_isShelf (by decide +kernel) ⟨Nat.le_of_ble_eq_true rfl, Nat.le_of_ble_eq_true rfl⟩ ⟨by first | exact Nat.le_of_ble_eq_true rfl | (show _ ≤ 2; omega), by first | exact Nat.le_of_ble_eq_true rfl | (show _ ≤ 160; omega)⟩ rfl hl.1 rfl (Nat.le_of_ble_eq_true rfl) dX10_give_1 hK hI (fun r G1 H1 L1 hp hI => ?_)
  obtain ⟨v, rfl, hGe, ⟨h_1, rfl⟩ | ⟨h_1, rfl⟩⟩ := hp
  · rw [hGe] at hI
    refine W.eq (g2 := F0 mI 4 ls [.int 1]) rfl ?_
    refine lv_if_eq (tgt := 23) hx hb dX10_give_4 (by decide) (fun c_2 => absurd c_2 (by decide)) (fun _ => ?_)
    refine lv_iload_n hx hb dX10_give_7 rfl (lv_at hl 3 rfl) ?_
    refine g_callS (own := RX10) (index := 23) (n := 1) hx hb hml hown hts (c_X10_isShelf l E b0 _ f) m_ml_X10_23 m_st_X10_isShelf m_in_X10 m_co_X10_isShelf (by decide +kernel) ⟨Nat.le_of_ble_eq_true rfl, Nat.le_of_ble_eq_true rfl⟩ ⟨by first | exact Nat.le_of_ble_eq_true rfl | (show _ ≤ 2; omega), by first | exact Nat.le_of_ble_eq_true rfl | (show _ ≤ 160; omega)⟩ rfl hl.1 rfl (Nat.le_of_ble_eq_true rfl) dX10_give_8 hK hI (fun r G1 H1 L1 hp hI => ?_)
    obtain ⟨v, rfl, hGe, ⟨h_3, rfl⟩ | ⟨h_3, rfl⟩⟩ := hp
    · rw [hGe] at hI
      refine W.eq (g2 := F0 mI 11 ls [.int 1]) rfl ?_
      refine lv_if_eq (tgt := 23) hx hb dX10_give_11 (by decide) (fun c_4 => absurd c_4 (by decide)) (fun _ => ?_)
      refine lv_iload_n hx hb dX10_give_14 rfl (lv_at hl 2 rfl) ?_
      refine lv_if_lt (tgt := 23) hx hb dX10_give_15 (by decide) (fun c_5 => ?_) (fun c_5 => ?_)
      · refine lv_iconst (v := -1) hx hb dX10_give_23 (by decide) ?_
        have e9 : sp_give A s w f = ((-1), A) := by
          simp only [sp_give, inb, decide_true, decide_false, Bool.not_false, Bool.not_true, Bool.and_true, Bool.true_and, Bool.false_and, Bool.and_false, Bool.and_self, rfi, rfj, wHv, wRw, wSl, h_1, h_3, c_5, eqb_00, eqb_10, eqb_20, eqb_30, eqb_50, eqb_11, eqb_21, reduceIte, Bool.false_eq_true, not_true_eq_false, not_false_eq_true, ite_self]
        exact g_iret hx hb hr hlocks hI ⟨_, rfl, by rw [e9], aa, nn, by omega, by rw [e9]; exact hS⟩ dX10_give_24 (by omega) (by omega)
      · refine lv_iload_n hx hb dX10_give_18 rfl (lv_at hl 2 rfl) ?_
        refine lv_iconst (v := 2) hx hb dX10_give_19 (by decide) ?_
        refine lv_icmp_le (tgt := 25) hx hb dX10_give_20 (by decide) (fun c_6 => ?_) (fun c_6 => ?_)
        · have c_6 := Int32.not_lt.mpr c_6
          rcases glit2 c_5 c_6 with rfl | rfl | rfl
          · have _ := 0
            refine lv_aload_n hx hb dX10_give_25 rfl (lv_at hl 0 rfl) ?_
            refine g_get (index := 11) (ci := 8) hx hb hts inlX10 hown hK hI hS.2.2.2.1 rfl 0 (by decide) m_fl_X10_11 (fun _ h9 => h9) rfl dX10_give_26 ?_
            refine lv_iload_n hx hb dX10_give_29 rfl (lv_at hl 3 rfl) ?_
            rcases btf (eqb (A 0 (ix f)) 0) with h_7 | h_7
            · have z_8 := fun lo hi => fit_0 (A := A) lo hi h_7
              have t_9 : tv nn (A 0 (ix f)) := (hS.tsh h_3)
              refine g_aald hx hb hK hI 1 hS.2.2.2.2.1 rfl (sh_in h_3) dX10_give_30 ?_
              refine W.eq (g2 := F0 mI 31 ls [.null]) (by rw [show shf aa A (Int32.toNatClampNeg f) = adr aa (A 0 (ix f)) from shf_at h_3, adr_n h_7]; rfl) ?_
              refine lv_astoreN (lv' := [(4, .null), (0, .ref (aa 0)), (1, .int s), (2, .int 0), (3, .int f)]) hx hb dX10_give_31 hl (by decide) rfl (fun ls hl => ?_)
              refine lv_aload_n hx hb dX10_give_33 rfl (lv_at hl 1 rfl) ?_
              refine g_get (index := 11) (ci := 8) hx hb hts inlX10 hown hK hI hS.2.2.2.1 rfl 0 (by decide) m_fl_X10_11 (fun _ h9 => h9) rfl dX10_give_34 ?_
              refine lv_iload_n hx hb dX10_give_37 rfl (lv_at hl 2 rfl) ?_
              rcases btf (eqb (A 0 (ix s)) 0) with h_10 | h_10
              · have z_11 := fun lo hi => fit_0 (A := A) lo hi h_10
                have t_12 : tv nn (A 0 (ix s)) := (hS.tsh h_1)
                refine g_aald hx hb hK hI 1 hS.2.2.2.2.1 rfl (sh_in h_1) dX10_give_38 ?_
                refine W.eq (g2 := F0 mI 39 ls [.null]) (by rw [show shf aa A (Int32.toNatClampNeg s) = adr aa (A 0 (ix s)) from shf_at h_1, adr_n h_10]; rfl) ?_
                refine g_callS (own := RX10) (index := 46) (n := 1) hx hb hml hown hts (c_X10_isNoHive_n l E b0 _) m_ml_X10_46 m_st_X10_isNoHive m_in_X10 m_co_X10_isNoHive (by decide +kernel) ⟨Nat.le_of_ble_eq_true rfl, Nat.le_of_ble_eq_true rfl⟩ ⟨by first | exact Nat.le_of_ble_eq_true rfl | (show _ ≤ 2; omega), by first | exact Nat.le_of_ble_eq_true rfl | (show _ ≤ 160; omega)⟩ rfl hl.1 rfl (Nat.le_of_ble_eq_true rfl) dX10_give_39 hK hI (fun r G1 H1 L1 hp hI => ?_)
                obtain ⟨v, rfl, ev, hGe⟩ := hp
                subst ev
                rw [hGe] at hI
                refine W.eq (g2 := F0 mI 42 ls [.int 0]) rfl ?_
                refine lv_if_ne (tgt := 54) hx hb dX10_give_42 (by decide) (fun c_13 => absurd c_13 (by decide)) (fun _ => ?_)
                refine lv_aloadN hx hb dX10_give_45 (lv_at hl 0 rfl) ?_
                refine lv_iload_n hx hb dX10_give_47 rfl (lv_at hl 3 rfl) ?_
                refine g_callS (own := RX10) (index := 50) (n := 2) hx hb hml hown hts (c_X10_isNoPart_n l E b0 _ 0) m_ml_X10_50 m_st_X10_isNoPart m_in_X10 m_co_X10_isNoPart (by decide +kernel) ⟨Nat.le_of_ble_eq_true rfl, Nat.le_of_ble_eq_true rfl⟩ ⟨by first | exact Nat.le_of_ble_eq_true rfl | (show _ ≤ 2; omega), by first | exact Nat.le_of_ble_eq_true rfl | (show _ ≤ 160; omega)⟩ rfl hl.1 rfl (Nat.le_of_ble_eq_true rfl) dX10_give_48 hK hI (fun r G1 H1 L1 hp hI => ?_)
                obtain ⟨v, rfl, ev, hGe⟩ := hp
                subst ev
                rw [hGe] at hI
                refine W.eq (g2 := F0 mI 51 ls [.int 0]) rfl ?_
                refine lv_if_eq (tgt := 60) hx hb dX10_give_51 (by decide) (fun _ => ?_) (fun c_14 => absurd c_14 (by decide))
                refine lv_aload_n hx hb dX10_give_60 rfl (lv_at hl 1 rfl) ?_
                refine g_get (index := 11) (ci := 8) hx hb hts inlX10 hown hK hI hS.2.2.2.1 rfl 0 (by decide) m_fl_X10_11 (fun _ h9 => h9) rfl dX10_give_61 ?_
                refine lv_iload_n hx hb dX10_give_64 rfl (lv_at hl 2 rfl) ?_
                refine g_aald hx hb hK hI 1 hS.2.2.2.2.1 rfl (sh_in h_1) dX10_give_65 ?_
                refine W.eq (g2 := F0 mI 66 ls [.null]) (by rw [show shf aa A (Int32.toNatClampNeg s) = adr aa (A 0 (ix s)) from shf_at h_1, adr_n h_10]; rfl) ?_
                refine g_callS (own := RX10) (index := 54) (n := 1) hx hb hml hown hts (c_X10_asHive_n l E b0 _) m_ml_X10_54 m_st_X10_asHive m_in_X10 m_co_X10_asHive (by decide +kernel) ⟨Nat.le_of_ble_eq_true rfl, Nat.le_of_ble_eq_true rfl⟩ ⟨by first | exact Nat.le_of_ble_eq_true rfl | (show _ ≤ 2; omega), by first | exact Nat.le_of_ble_eq_true rfl | (show _ ≤ 160; omega)⟩ rfl hl.1 rfl (Nat.le_of_ble_eq_true rfl) dX10_give_66 hK hI (fun r G1 H1 L1 hp hI => ?_)
                obtain ⟨v, rfl, ev, hGe⟩ := hp
                subst ev
                rw [hGe] at hI
                refine W.eq (g2 := F0 mI 69 ls [.null]) rfl ?_
                refine lv_astoreN (lv' := [(5, .null), (4, .null), (0, .ref (aa 0)), (1, .int s), (2, .int 0), (3, .int f)]) hx hb dX10_give_69 hl (by decide) rfl (fun ls hl => ?_)
                refine lv_aloadN hx hb dX10_give_71 (lv_at hl 0 rfl) ?_
                refine lv_ifnonnullN hx hb dX10_give_73 ?_
                refine lv_aload_n hx hb dX10_give_76 rfl (lv_at hl 2 rfl) ?_
                refine lv_iconst (v := 1) hx hb dX10_give_77 (by decide) ?_
                refine g_callV (own := RX10) (index := 31) (n := 1) hx hb hml hown hts (c_X10_refuse l E b0 _ _ aa _ nn hS hn 1 (vp_in_iff.mpr (by decide))) hS.2.2.2.1 rfl rfl m_ml_X10_31 m_im_X10_refuse m_se_X10_X10_refuse_X10_refuse m_in_X10 m_co_X10_refuse (by decide +kernel) ⟨Nat.le_of_ble_eq_true rfl, Nat.le_of_ble_eq_true rfl⟩ ⟨by first | exact Nat.le_of_ble_eq_true rfl | (show _ ≤ 2; omega), by first | exact Nat.le_of_ble_eq_true rfl | (show _ ≤ 160; omega)⟩ rfl hl.1 rfl (Nat.le_of_ble_eq_true rfl) dX10_give_78 hK hI (fun r G1 H1 L1 hp hI => ?_)
                obtain ⟨v, rfl, ev, hS⟩ := hp
                subst ev
                refine W.eq (g2 := F0 mI 81 ls [.int (-10 - 1)]) rfl ?_
                have e9 : sp_give A s 0 f = ((-10 - 1), (rfs A 1)) := by
                  simp only [sp_give, inb, decide_true, decide_false, Bool.not_false, Bool.not_true, Bool.and_true, Bool.true_and, Bool.false_and, Bool.and_false, Bool.and_self, rfi, rfj, wHv, wRw, wSl, h_1, h_3, c_5, c_6, h_7, z_8, h_10, z_11, eqb_00, eqb_10, eqb_20, eqb_30, eqb_50, eqb_11, eqb_21, reduceIte, Bool.false_eq_true, not_true_eq_false, not_false_eq_true, ite_self]
                exact g_iret hx hb hr hlocks hI ⟨_, rfl, by rw [e9], aa, nn, by omega, by rw [e9]; exact hS⟩ dX10_give_81 (by omega) (by omega)
              · have _ := 0
                have t_15 : tv nn (A 0 (ix s)) := (hS.tsh h_1)
                refine g_aald hx hb hK hI 1 hS.2.2.2.2.1 rfl (sh_in h_1) dX10_give_38 ?_
                refine W.eq (g2 := F0 mI 39 ls [.ref (aa (4 * ix (A 0 (ix s))))]) (by rw [show shf aa A (Int32.toNatClampNeg s) = adr aa (A 0 (ix s)) from shf_at h_1, adr_s h_10]; rfl) ?_
                rcases btf (fit A (A 0 (ix s)) 6 7) with h_16 | h_16
                · have _ := 0
                  refine g_callS (own := RX10) (index := 46) (n := 1) hx hb hml hown hts (c_X10_isNoHive_y l E b0 _ (aa (4 * ix (A 0 (ix s)))) _ _ (hS.at hn t_15 h_10) (cix_in _) (hS.gs hn t_15 h_10 5 (by decide) h_16)) m_ml_X10_46 m_st_X10_isNoHive m_in_X10 m_co_X10_isNoHive (by decide +kernel) ⟨Nat.le_of_ble_eq_true rfl, Nat.le_of_ble_eq_true rfl⟩ ⟨by first | exact Nat.le_of_ble_eq_true rfl | (show _ ≤ 2; omega), by first | exact Nat.le_of_ble_eq_true rfl | (show _ ≤ 160; omega)⟩ rfl hl.1 rfl (Nat.le_of_ble_eq_true rfl) dX10_give_39 hK hI (fun r G1 H1 L1 hp hI => ?_)
                  obtain ⟨v, rfl, ev, hGe⟩ := hp
                  subst ev
                  rw [hGe] at hI
                  refine W.eq (g2 := F0 mI 42 ls [.int 0]) rfl ?_
                  refine lv_if_ne (tgt := 54) hx hb dX10_give_42 (by decide) (fun c_17 => absurd c_17 (by decide)) (fun _ => ?_)
                  refine lv_aloadN hx hb dX10_give_45 (lv_at hl 0 rfl) ?_
                  refine lv_iload_n hx hb dX10_give_47 rfl (lv_at hl 3 rfl) ?_
                  refine g_callS (own := RX10) (index := 50) (n := 2) hx hb hml hown hts (c_X10_isNoPart_n l E b0 _ 0) m_ml_X10_50 m_st_X10_isNoPart m_in_X10 m_co_X10_isNoPart (by decide +kernel) ⟨Nat.le_of_ble_eq_true rfl, Nat.le_of_ble_eq_true rfl⟩ ⟨by first | exact Nat.le_of_ble_eq_true rfl | (show _ ≤ 2; omega), by first | exact Nat.le_of_ble_eq_true rfl | (show _ ≤ 160; omega)⟩ rfl hl.1 rfl (Nat.le_of_ble_eq_true rfl) dX10_give_48 hK hI (fun r G1 H1 L1 hp hI => ?_)
                  obtain ⟨v, rfl, ev, hGe⟩ := hp
                  subst ev
                  rw [hGe] at hI
                  refine W.eq (g2 := F0 mI 51 ls [.int 0]) rfl ?_
                  refine lv_if_eq (tgt := 60) hx hb dX10_give_51 (by decide) (fun _ => ?_) (fun c_18 => absurd c_18 (by decide))
                  refine lv_aload_n hx hb dX10_give_60 rfl (lv_at hl 1 rfl) ?_
                  refine g_get (index := 11) (ci := 8) hx hb hts inlX10 hown hK hI hS.2.2.2.1 rfl 0 (by decide) m_fl_X10_11 (fun _ h9 => h9) rfl dX10_give_61 ?_
                  refine lv_iload_n hx hb dX10_give_64 rfl (lv_at hl 2 rfl) ?_
                  refine g_aald hx hb hK hI 1 hS.2.2.2.2.1 rfl (sh_in h_1) dX10_give_65 ?_
                  refine W.eq (g2 := F0 mI 66 ls [.ref (aa (4 * ix (A 0 (ix s))))]) (by rw [show shf aa A (Int32.toNatClampNeg s) = adr aa (A 0 (ix s)) from shf_at h_1, adr_s h_10]; rfl) ?_
                  refine g_callS (own := RX10) (index := 54) (n := 1) hx hb hml hown hts (c_X10_asHive_y l E b0 _ (aa (4 * ix (A 0 (ix s)))) _ _ (hS.at hn t_15 h_10) (cix_in _) (hS.gs hn t_15 h_10 5 (by decide) h_16)) m_ml_X10_54 m_st_X10_asHive m_in_X10 m_co_X10_asHive (by decide +kernel) ⟨Nat.le_of_ble_eq_true rfl, Nat.le_of_ble_eq_true rfl⟩ ⟨by first | exact Nat.le_of_ble_eq_true rfl | (show _ ≤ 2; omega), by first | exact Nat.le_of_ble_eq_true rfl | (show _ ≤ 160; omega)⟩ rfl hl.1 rfl (Nat.le_of_ble_eq_true rfl) dX10_give_66 hK hI (fun r G1 H1 L1 hp hI => ?_)
                  obtain ⟨v, rfl, ev, hGe⟩ := hp
                  subst ev
                  rw [hGe] at hI
                  refine W.eq (g2 := F0 mI 69 ls [.ref (aa (4 * ix (A 0 (ix s))))]) rfl ?_
                  refine lv_astore (lv' := [(5, .ref (aa (4 * ix (A 0 (ix s))))), (4, .null), (0, .ref (aa 0)), (1, .int s), (2, .int 0), (3, .int f)]) hx hb dX10_give_69 hl (by decide) rfl (fun ls hl => ?_)
                  refine lv_aload hx hb dX10_give_71 (lv_at hl 0 rfl) ?_
                  refine lv_ifnonnull (tgt := 82) hx hb dX10_give_73 (by decide) ?_
                  refine lv_aload hx hb dX10_give_82 (lv_at hl 0 rfl) ?_
                  refine lv_iload_n hx hb dX10_give_84 rfl (lv_at hl 4 rfl) ?_
                  refine lv_aloadN hx hb dX10_give_85 (lv_at hl 1 rfl) ?_
                  refine g_callV (own := RX10) (index := 58) (n := 2) hx hb hml hown hts (c_X5_changePart_0n l E b0 _ (aa (4 * ix (A 0 (ix s)))) _ _ _ _ _ _ (hS.hv hn t_15 h_10 h_16)) (hS.hv hn t_15 h_10 h_16) rfl rfl m_ml_X10_58 m_im_X5_changePart m_se_X5_X5_changePart_X5_changePart m_in_X5 m_co_X5_changePart (by decide +kernel) ⟨Nat.le_of_ble_eq_true rfl, Nat.le_of_ble_eq_true rfl⟩ ⟨by first | exact Nat.le_of_ble_eq_true rfl | (show _ ≤ 2; omega), by first | exact Nat.le_of_ble_eq_true rfl | (show _ ≤ 160; omega)⟩ rfl hl.1 rfl (Nat.le_of_ble_eq_true rfl) dX10_give_87 hK hI (fun r G1 H1 L1 hp hI => ?_)
                  obtain ⟨rfl, hGe⟩ := hp
                  rw [hGe] at hI
                  have hy : (.inr (5, _) : va_E) = _ := hvf_u (aa := aa) 10 (A 0 (ix f)) (by rw [← fit_so h_10]; exact h_16) (hS.so hn t_15 h_10) (by decide)
                  rw [adr_n h_7] at hy
                  have hS := SW.p10 hS 10 (by decide) (ix (A 0 (ix s))) (t_15.pos hn h_10) (t_15.ixle hn).1 (w := (A 0 (ix f))) t_9 (by exact (fit_0 _ _ h_7)) hy
                  refine W.eq (g2 := F0 mI 90 ls []) rfl ?_
                  refine lv_aloadN hx hb dX10_give_90 (lv_at hl 1 rfl) ?_
                  refine g_callS (own := RX10) (index := 42) (n := 1) hx hb hml hown hts (c_X10_oneIfThing_n l E b0 _) m_ml_X10_42 m_st_X10_oneIfThing m_in_X10 m_co_X10_oneIfThing (by decide +kernel) ⟨Nat.le_of_ble_eq_true rfl, Nat.le_of_ble_eq_true rfl⟩ ⟨by first | exact Nat.le_of_ble_eq_true rfl | (show _ ≤ 2; omega), by first | exact Nat.le_of_ble_eq_true rfl | (show _ ≤ 160; omega)⟩ rfl hl.1 rfl (Nat.le_of_ble_eq_true rfl) dX10_give_92 hK hI (fun r G1 H1 L1 hp hI => ?_)
                  obtain ⟨v, rfl, ev, hGe⟩ := hp
                  subst ev
                  rw [hGe] at hI
                  refine W.eq (g2 := F0 mI 95 ls [.int 0]) rfl ?_
                  have e9 : sp_give A s 0 f = (0, (u2 A 10 (ix (A 0 (ix s))) (A 0 (ix f)))) := by
                    simp only [sp_give, inb, decide_true, decide_false, Bool.not_false, Bool.not_true, Bool.and_true, Bool.true_and, Bool.false_and, Bool.and_false, Bool.and_self, rfi, rfj, wHv, wRw, wSl, h_1, h_3, c_5, c_6, h_7, z_8, h_10, h_16, eqb_00, eqb_10, eqb_20, eqb_30, eqb_50, eqb_11, eqb_21, reduceIte, Bool.false_eq_true, not_true_eq_false, not_false_eq_true, ite_self]
                  exact g_iret hx hb hr hlocks hI ⟨_, rfl, by rw [e9], aa, nn, by omega, by rw [e9]; exact hS⟩ dX10_give_95 (by omega) (by omega)
                · have _ := 0
                  refine g_callS (own := RX10) (index := 46) (n := 1) hx hb hml hown hts (c_X10_isNoHive_f l E b0 _ (aa (4 * ix (A 0 (ix s)))) _ _ (hS.at hn t_15 h_10) (cix_in _) (hS.gs hn t_15 h_10 5 (by decide) h_16)) m_ml_X10_46 m_st_X10_isNoHive m_in_X10 m_co_X10_isNoHive (by decide +kernel) ⟨Nat.le_of_ble_eq_true rfl, Nat.le_of_ble_eq_true rfl⟩ ⟨by first | exact Nat.le_of_ble_eq_true rfl | (show _ ≤ 2; omega), by first | exact Nat.le_of_ble_eq_true rfl | (show _ ≤ 160; omega)⟩ rfl hl.1 rfl (Nat.le_of_ble_eq_true rfl) dX10_give_39 hK hI (fun r G1 H1 L1 hp hI => ?_)
                  obtain ⟨v, rfl, ev, hGe⟩ := hp
                  subst ev
                  rw [hGe] at hI
                  refine W.eq (g2 := F0 mI 42 ls [.int 1]) rfl ?_
                  refine lv_if_ne (tgt := 54) hx hb dX10_give_42 (by decide) (fun _ => ?_) (fun c_19 => absurd c_19 (by decide))
                  refine lv_aload_n hx hb dX10_give_54 rfl (lv_at hl 1 rfl) ?_
                  refine lv_iconst (v := 5) hx hb dX10_give_55 (by decide) ?_
                  refine g_callV (own := RX10) (index := 31) (n := 1) hx hb hml hown hts (c_X10_refuse l E b0 _ _ aa _ nn hS hn 5 (vp_in_iff.mpr (by decide))) hS.2.2.2.1 rfl rfl m_ml_X10_31 m_im_X10_refuse m_se_X10_X10_refuse_X10_refuse m_in_X10 m_co_X10_refuse (by decide +kernel) ⟨Nat.le_of_ble_eq_true rfl, Nat.le_of_ble_eq_true rfl⟩ ⟨by first | exact Nat.le_of_ble_eq_true rfl | (show _ ≤ 2; omega), by first | exact Nat.le_of_ble_eq_true rfl | (show _ ≤ 160; omega)⟩ rfl hl.1 rfl (Nat.le_of_ble_eq_true rfl) dX10_give_56 hK hI (fun r G1 H1 L1 hp hI => ?_)
                  obtain ⟨v, rfl, ev, hS⟩ := hp
                  subst ev
                  refine W.eq (g2 := F0 mI 59 ls [.int (-10 - 5)]) rfl ?_
                  have e9 : sp_give A s 0 f = ((-10 - 5), (rfs A 5)) := by
                    simp only [sp_give, inb, decide_true, decide_false, Bool.not_false, Bool.not_true, Bool.and_true, Bool.true_and, Bool.false_and, Bool.and_false, Bool.and_self, rfi, rfj, wHv, wRw, wSl, h_1, h_3, c_5, c_6, h_7, z_8, h_10, h_16, eqb_00, eqb_10, eqb_20, eqb_30, eqb_50, eqb_11, eqb_21, reduceIte, Bool.false_eq_true, not_true_eq_false, not_false_eq_true, ite_self]
                  exact g_iret hx hb hr hlocks hI ⟨_, rfl, by rw [e9], aa, nn, by omega, by rw [e9]; exact hS⟩ dX10_give_59 (by omega) (by omega)
            · have _ := 0
              have t_20 : tv nn (A 0 (ix f)) := (hS.tsh h_3)
              refine g_aald hx hb hK hI 1 hS.2.2.2.2.1 rfl (sh_in h_3) dX10_give_30 ?_
              refine W.eq (g2 := F0 mI 31 ls [.ref (aa (4 * ix (A 0 (ix f))))]) (by rw [show shf aa A (Int32.toNatClampNeg f) = adr aa (A 0 (ix f)) from shf_at h_3, adr_s h_7]; rfl) ?_
              refine lv_astore (lv' := [(4, .ref (aa (4 * ix (A 0 (ix f))))), (0, .ref (aa 0)), (1, .int s), (2, .int 0), (3, .int f)]) hx hb dX10_give_31 hl (by decide) rfl (fun ls hl => ?_)
              refine lv_aload_n hx hb dX10_give_33 rfl (lv_at hl 1 rfl) ?_
              refine g_get (index := 11) (ci := 8) hx hb hts inlX10 hown hK hI hS.2.2.2.1 rfl 0 (by decide) m_fl_X10_11 (fun _ h9 => h9) rfl dX10_give_34 ?_
              refine lv_iload_n hx hb dX10_give_37 rfl (lv_at hl 2 rfl) ?_
              rcases btf (eqb (A 0 (ix s)) 0) with h_21 | h_21
              · have z_22 := fun lo hi => fit_0 (A := A) lo hi h_21
                have t_23 : tv nn (A 0 (ix s)) := (hS.tsh h_1)
                refine g_aald hx hb hK hI 1 hS.2.2.2.2.1 rfl (sh_in h_1) dX10_give_38 ?_
                refine W.eq (g2 := F0 mI 39 ls [.null]) (by rw [show shf aa A (Int32.toNatClampNeg s) = adr aa (A 0 (ix s)) from shf_at h_1, adr_n h_21]; rfl) ?_
                refine g_callS (own := RX10) (index := 46) (n := 1) hx hb hml hown hts (c_X10_isNoHive_n l E b0 _) m_ml_X10_46 m_st_X10_isNoHive m_in_X10 m_co_X10_isNoHive (by decide +kernel) ⟨Nat.le_of_ble_eq_true rfl, Nat.le_of_ble_eq_true rfl⟩ ⟨by first | exact Nat.le_of_ble_eq_true rfl | (show _ ≤ 2; omega), by first | exact Nat.le_of_ble_eq_true rfl | (show _ ≤ 160; omega)⟩ rfl hl.1 rfl (Nat.le_of_ble_eq_true rfl) dX10_give_39 hK hI (fun r G1 H1 L1 hp hI => ?_)
                obtain ⟨v, rfl, ev, hGe⟩ := hp
                subst ev
                rw [hGe] at hI
                refine W.eq (g2 := F0 mI 42 ls [.int 0]) rfl ?_
                refine lv_if_ne (tgt := 54) hx hb dX10_give_42 (by decide) (fun c_24 => absurd c_24 (by decide)) (fun _ => ?_)
                refine lv_aload hx hb dX10_give_45 (lv_at hl 0 rfl) ?_
                refine lv_iload_n hx hb dX10_give_47 rfl (lv_at hl 3 rfl) ?_
                rcases btf (fit A (A 0 (ix f)) 2 2) with h_25 | h_25
                · have _ := 0
                  refine g_callS (own := RX10) (index := 50) (n := 2) hx hb hml hown hts (c_X10_isNoPart_0y l E b0 _ (aa (4 * ix (A 0 (ix f)))) _ _ (hS.at hn t_20 h_7) (cix_in _) (hS.gs hn t_20 h_7 7 (by decide) h_25)) m_ml_X10_50 m_st_X10_isNoPart m_in_X10 m_co_X10_isNoPart (by decide +kernel) ⟨Nat.le_of_ble_eq_true rfl, Nat.le_of_ble_eq_true rfl⟩ ⟨by first | exact Nat.le_of_ble_eq_true rfl | (show _ ≤ 2; omega), by first | exact Nat.le_of_ble_eq_true rfl | (show _ ≤ 160; omega)⟩ rfl hl.1 rfl (Nat.le_of_ble_eq_true rfl) dX10_give_48 hK hI (fun r G1 H1 L1 hp hI => ?_)
                  obtain ⟨v, rfl, ev, hGe⟩ := hp
                  subst ev
                  rw [hGe] at hI
                  refine W.eq (g2 := F0 mI 51 ls [.int 0]) rfl ?_
                  refine lv_if_eq (tgt := 60) hx hb dX10_give_51 (by decide) (fun _ => ?_) (fun c_26 => absurd c_26 (by decide))
                  refine lv_aload_n hx hb dX10_give_60 rfl (lv_at hl 1 rfl) ?_
                  refine g_get (index := 11) (ci := 8) hx hb hts inlX10 hown hK hI hS.2.2.2.1 rfl 0 (by decide) m_fl_X10_11 (fun _ h9 => h9) rfl dX10_give_61 ?_
                  refine lv_iload_n hx hb dX10_give_64 rfl (lv_at hl 2 rfl) ?_
                  refine g_aald hx hb hK hI 1 hS.2.2.2.2.1 rfl (sh_in h_1) dX10_give_65 ?_
                  refine W.eq (g2 := F0 mI 66 ls [.null]) (by rw [show shf aa A (Int32.toNatClampNeg s) = adr aa (A 0 (ix s)) from shf_at h_1, adr_n h_21]; rfl) ?_
                  refine g_callS (own := RX10) (index := 54) (n := 1) hx hb hml hown hts (c_X10_asHive_n l E b0 _) m_ml_X10_54 m_st_X10_asHive m_in_X10 m_co_X10_asHive (by decide +kernel) ⟨Nat.le_of_ble_eq_true rfl, Nat.le_of_ble_eq_true rfl⟩ ⟨by first | exact Nat.le_of_ble_eq_true rfl | (show _ ≤ 2; omega), by first | exact Nat.le_of_ble_eq_true rfl | (show _ ≤ 160; omega)⟩ rfl hl.1 rfl (Nat.le_of_ble_eq_true rfl) dX10_give_66 hK hI (fun r G1 H1 L1 hp hI => ?_)
                  obtain ⟨v, rfl, ev, hGe⟩ := hp
                  subst ev
                  rw [hGe] at hI
                  refine W.eq (g2 := F0 mI 69 ls [.null]) rfl ?_
                  refine lv_astoreN (lv' := [(5, .null), (4, .ref (aa (4 * ix (A 0 (ix f))))), (0, .ref (aa 0)), (1, .int s), (2, .int 0), (3, .int f)]) hx hb dX10_give_69 hl (by decide) rfl (fun ls hl => ?_)
                  refine lv_aloadN hx hb dX10_give_71 (lv_at hl 0 rfl) ?_
                  refine lv_ifnonnullN hx hb dX10_give_73 ?_
                  refine lv_aload_n hx hb dX10_give_76 rfl (lv_at hl 2 rfl) ?_
                  refine lv_iconst (v := 1) hx hb dX10_give_77 (by decide) ?_
                  refine g_callV (own := RX10) (index := 31) (n := 1) hx hb hml hown hts (c_X10_refuse l E b0 _ _ aa _ nn hS hn 1 (vp_in_iff.mpr (by decide))) hS.2.2.2.1 rfl rfl m_ml_X10_31 m_im_X10_refuse m_se_X10_X10_refuse_X10_refuse m_in_X10 m_co_X10_refuse (by decide +kernel) ⟨Nat.le_of_ble_eq_true rfl, Nat.le_of_ble_eq_true rfl⟩ ⟨by first | exact Nat.le_of_ble_eq_true rfl | (show _ ≤ 2; omega), by first | exact Nat.le_of_ble_eq_true rfl | (show _ ≤ 160; omega)⟩ rfl hl.1 rfl (Nat.le_of_ble_eq_true rfl) dX10_give_78 hK hI (fun r G1 H1 L1 hp hI => ?_)
                  obtain ⟨v, rfl, ev, hS⟩ := hp
                  subst ev
                  refine W.eq (g2 := F0 mI 81 ls [.int (-10 - 1)]) rfl ?_
                  have e9 : sp_give A s 0 f = ((-10 - 1), (rfs A 1)) := by
                    simp only [sp_give, inb, decide_true, decide_false, Bool.not_false, Bool.not_true, Bool.and_true, Bool.true_and, Bool.false_and, Bool.and_false, Bool.and_self, rfi, rfj, wHv, wRw, wSl, h_1, h_3, c_5, c_6, h_7, h_21, z_22, h_25, eqb_00, eqb_10, eqb_20, eqb_30, eqb_50, eqb_11, eqb_21, reduceIte, Bool.false_eq_true, not_true_eq_false, not_false_eq_true, ite_self]
                  exact g_iret hx hb hr hlocks hI ⟨_, rfl, by rw [e9], aa, nn, by omega, by rw [e9]; exact hS⟩ dX10_give_81 (by omega) (by omega)
                · have _ := 0
                  refine g_callS (own := RX10) (index := 50) (n := 2) hx hb hml hown hts (c_X10_isNoPart_0f l E b0 _ (aa (4 * ix (A 0 (ix f)))) _ _ (hS.at hn t_20 h_7) (cix_in _) (hS.gs hn t_20 h_7 7 (by decide) h_25)) m_ml_X10_50 m_st_X10_isNoPart m_in_X10 m_co_X10_isNoPart (by decide +kernel) ⟨Nat.le_of_ble_eq_true rfl, Nat.le_of_ble_eq_true rfl⟩ ⟨by first | exact Nat.le_of_ble_eq_true rfl | (show _ ≤ 2; omega), by first | exact Nat.le_of_ble_eq_true rfl | (show _ ≤ 160; omega)⟩ rfl hl.1 rfl (Nat.le_of_ble_eq_true rfl) dX10_give_48 hK hI (fun r G1 H1 L1 hp hI => ?_)
                  obtain ⟨v, rfl, ev, hGe⟩ := hp
                  subst ev
                  rw [hGe] at hI
                  refine W.eq (g2 := F0 mI 51 ls [.int 1]) rfl ?_
                  refine lv_if_eq (tgt := 60) hx hb dX10_give_51 (by decide) (fun c_27 => absurd c_27 (by decide)) (fun _ => ?_)
                  refine lv_aload_n hx hb dX10_give_54 rfl (lv_at hl 1 rfl) ?_
                  refine lv_iconst (v := 5) hx hb dX10_give_55 (by decide) ?_
                  refine g_callV (own := RX10) (index := 31) (n := 1) hx hb hml hown hts (c_X10_refuse l E b0 _ _ aa _ nn hS hn 5 (vp_in_iff.mpr (by decide))) hS.2.2.2.1 rfl rfl m_ml_X10_31 m_im_X10_refuse m_se_X10_X10_refuse_X10_refuse m_in_X10 m_co_X10_refuse (by decide +kernel) ⟨Nat.le_of_ble_eq_true rfl, Nat.le_of_ble_eq_true rfl⟩ ⟨by first | exact Nat.le_of_ble_eq_true rfl | (show _ ≤ 2; omega), by first | exact Nat.le_of_ble_eq_true rfl | (show _ ≤ 160; omega)⟩ rfl hl.1 rfl (Nat.le_of_ble_eq_true rfl) dX10_give_56 hK hI (fun r G1 H1 L1 hp hI => ?_)
                  obtain ⟨v, rfl, ev, hS⟩ := hp
                  subst ev
                  refine W.eq (g2 := F0 mI 59 ls [.int (-10 - 5)]) rfl ?_
                  have e9 : sp_give A s 0 f = ((-10 - 5), (rfs A 5)) := by
                    simp only [sp_give, inb, decide_true, decide_false, Bool.not_false, Bool.not_true, Bool.and_true, Bool.true_and, Bool.false_and, Bool.and_false, Bool.and_self, rfi, rfj, wHv, wRw, wSl, h_1, h_3, c_5, c_6, h_7, h_21, z_22, h_25, eqb_00, eqb_10, eqb_20, eqb_30, eqb_50, eqb_11, eqb_21, reduceIte, Bool.false_eq_true, not_true_eq_false, not_false_eq_true, ite_self]
                  exact g_iret hx hb hr hlocks hI ⟨_, rfl, by rw [e9], aa, nn, by omega, by rw [e9]; exact hS⟩ dX10_give_59 (by omega) (by omega)
              · have _ := 0
                have t_28 : tv nn (A 0 (ix s)) := (hS.tsh h_1)
                refine g_aald hx hb hK hI 1 hS.2.2.2.2.1 rfl (sh_in h_1) dX10_give_38 ?_
                refine W.eq (g2 := F0 mI 39 ls [.ref (aa (4 * ix (A 0 (ix s))))]) (by rw [show shf aa A (Int32.toNatClampNeg s) = adr aa (A 0 (ix s)) from shf_at h_1, adr_s h_21]; rfl) ?_
                rcases btf (fit A (A 0 (ix s)) 6 7) with h_29 | h_29
                · have _ := 0
                  refine g_callS (own := RX10) (index := 46) (n := 1) hx hb hml hown hts (c_X10_isNoHive_y l E b0 _ (aa (4 * ix (A 0 (ix s)))) _ _ (hS.at hn t_28 h_21) (cix_in _) (hS.gs hn t_28 h_21 5 (by decide) h_29)) m_ml_X10_46 m_st_X10_isNoHive m_in_X10 m_co_X10_isNoHive (by decide +kernel) ⟨Nat.le_of_ble_eq_true rfl, Nat.le_of_ble_eq_true rfl⟩ ⟨by first | exact Nat.le_of_ble_eq_true rfl | (show _ ≤ 2; omega), by first | exact Nat.le_of_ble_eq_true rfl | (show _ ≤ 160; omega)⟩ rfl hl.1 rfl (Nat.le_of_ble_eq_true rfl) dX10_give_39 hK hI (fun r G1 H1 L1 hp hI => ?_)
                  obtain ⟨v, rfl, ev, hGe⟩ := hp
                  subst ev
                  rw [hGe] at hI
                  refine W.eq (g2 := F0 mI 42 ls [.int 0]) rfl ?_
                  refine lv_if_ne (tgt := 54) hx hb dX10_give_42 (by decide) (fun c_30 => absurd c_30 (by decide)) (fun _ => ?_)
                  refine lv_aload hx hb dX10_give_45 (lv_at hl 0 rfl) ?_
                  refine lv_iload_n hx hb dX10_give_47 rfl (lv_at hl 3 rfl) ?_
                  rcases btf (fit A (A 0 (ix f)) 2 2) with h_31 | h_31
                  · have _ := 0
                    refine g_callS (own := RX10) (index := 50) (n := 2) hx hb hml hown hts (c_X10_isNoPart_0y l E b0 _ (aa (4 * ix (A 0 (ix f)))) _ _ (hS.at hn t_20 h_7) (cix_in _) (hS.gs hn t_20 h_7 7 (by decide) h_31)) m_ml_X10_50 m_st_X10_isNoPart m_in_X10 m_co_X10_isNoPart (by decide +kernel) ⟨Nat.le_of_ble_eq_true rfl, Nat.le_of_ble_eq_true rfl⟩ ⟨by first | exact Nat.le_of_ble_eq_true rfl | (show _ ≤ 2; omega), by first | exact Nat.le_of_ble_eq_true rfl | (show _ ≤ 160; omega)⟩ rfl hl.1 rfl (Nat.le_of_ble_eq_true rfl) dX10_give_48 hK hI (fun r G1 H1 L1 hp hI => ?_)
                    obtain ⟨v, rfl, ev, hGe⟩ := hp
                    subst ev
                    rw [hGe] at hI
                    refine W.eq (g2 := F0 mI 51 ls [.int 0]) rfl ?_
                    refine lv_if_eq (tgt := 60) hx hb dX10_give_51 (by decide) (fun _ => ?_) (fun c_32 => absurd c_32 (by decide))
                    refine lv_aload_n hx hb dX10_give_60 rfl (lv_at hl 1 rfl) ?_
                    refine g_get (index := 11) (ci := 8) hx hb hts inlX10 hown hK hI hS.2.2.2.1 rfl 0 (by decide) m_fl_X10_11 (fun _ h9 => h9) rfl dX10_give_61 ?_
                    refine lv_iload_n hx hb dX10_give_64 rfl (lv_at hl 2 rfl) ?_
                    refine g_aald hx hb hK hI 1 hS.2.2.2.2.1 rfl (sh_in h_1) dX10_give_65 ?_
                    refine W.eq (g2 := F0 mI 66 ls [.ref (aa (4 * ix (A 0 (ix s))))]) (by rw [show shf aa A (Int32.toNatClampNeg s) = adr aa (A 0 (ix s)) from shf_at h_1, adr_s h_21]; rfl) ?_
                    refine g_callS (own := RX10) (index := 54) (n := 1) hx hb hml hown hts (c_X10_asHive_y l E b0 _ (aa (4 * ix (A 0 (ix s)))) _ _ (hS.at hn t_28 h_21) (cix_in _) (hS.gs hn t_28 h_21 5 (by decide) h_29)) m_ml_X10_54 m_st_X10_asHive m_in_X10 m_co_X10_asHive (by decide +kernel) ⟨Nat.le_of_ble_eq_true rfl, Nat.le_of_ble_eq_true rfl⟩ ⟨by first | exact Nat.le_of_ble_eq_true rfl | (show _ ≤ 2; omega), by first | exact Nat.le_of_ble_eq_true rfl | (show _ ≤ 160; omega)⟩ rfl hl.1 rfl (Nat.le_of_ble_eq_true rfl) dX10_give_66 hK hI (fun r G1 H1 L1 hp hI => ?_)
                    obtain ⟨v, rfl, ev, hGe⟩ := hp
                    subst ev
                    rw [hGe] at hI
                    refine W.eq (g2 := F0 mI 69 ls [.ref (aa (4 * ix (A 0 (ix s))))]) rfl ?_
                    refine lv_astore (lv' := [(5, .ref (aa (4 * ix (A 0 (ix s))))), (4, .ref (aa (4 * ix (A 0 (ix f))))), (0, .ref (aa 0)), (1, .int s), (2, .int 0), (3, .int f)]) hx hb dX10_give_69 hl (by decide) rfl (fun ls hl => ?_)
                    refine lv_aload hx hb dX10_give_71 (lv_at hl 0 rfl) ?_
                    refine lv_ifnonnull (tgt := 82) hx hb dX10_give_73 (by decide) ?_
                    refine lv_aload hx hb dX10_give_82 (lv_at hl 0 rfl) ?_
                    refine lv_iload_n hx hb dX10_give_84 rfl (lv_at hl 4 rfl) ?_
                    refine lv_aload hx hb dX10_give_85 (lv_at hl 1 rfl) ?_
                    refine g_callV (own := RX10) (index := 58) (n := 2) hx hb hml hown hts (c_X5_changePart_0r l E b0 _ (aa (4 * ix (A 0 (ix f)))) _ _ (hS.at hn t_20 h_7) (cix_in _) (aa (4 * ix (A 0 (ix s)))) _ _ _ _ _ _ (hS.hv hn t_28 h_21 h_29) (hS.gs hn t_20 h_7 7 (by decide) h_31)) (hS.hv hn t_28 h_21 h_29) rfl rfl m_ml_X10_58 m_im_X5_changePart m_se_X5_X5_changePart_X5_changePart m_in_X5 m_co_X5_changePart (by decide +kernel) ⟨Nat.le_of_ble_eq_true rfl, Nat.le_of_ble_eq_true rfl⟩ ⟨by first | exact Nat.le_of_ble_eq_true rfl | (show _ ≤ 2; omega), by first | exact Nat.le_of_ble_eq_true rfl | (show _ ≤ 160; omega)⟩ rfl hl.1 rfl (Nat.le_of_ble_eq_true rfl) dX10_give_87 hK hI (fun r G1 H1 L1 hp hI => ?_)
                    obtain ⟨rfl, hGe⟩ := hp
                    rw [hGe] at hI
                    have hy : (.inr (5, _) : va_E) = _ := hvf_u (aa := aa) 10 (A 0 (ix f)) (by rw [← fit_so h_21]; exact h_29) (hS.so hn t_28 h_21) (by decide)
                    rw [adr_s h_7] at hy
                    have hS := SW.p10 hS 10 (by decide) (ix (A 0 (ix s))) (t_28.pos hn h_21) (t_28.ixle hn).1 (w := (A 0 (ix f))) t_20 (by exact h_31) hy
                    refine W.eq (g2 := F0 mI 90 ls []) rfl ?_
                    refine lv_aload hx hb dX10_give_90 (lv_at hl 1 rfl) ?_
                    refine g_callS (own := RX10) (index := 42) (n := 1) hx hb hml hown hts (c_X10_oneIfThing_r l E b0 _ (aa (4 * ix (A 0 (ix f))))) m_ml_X10_42 m_st_X10_oneIfThing m_in_X10 m_co_X10_oneIfThing (by decide +kernel) ⟨Nat.le_of_ble_eq_true rfl, Nat.le_of_ble_eq_true rfl⟩ ⟨by first | exact Nat.le_of_ble_eq_true rfl | (show _ ≤ 2; omega), by first | exact Nat.le_of_ble_eq_true rfl | (show _ ≤ 160; omega)⟩ rfl hl.1 rfl (Nat.le_of_ble_eq_true rfl) dX10_give_92 hK hI (fun r G1 H1 L1 hp hI => ?_)
                    obtain ⟨v, rfl, ev, hGe⟩ := hp
                    subst ev
                    rw [hGe] at hI
                    refine W.eq (g2 := F0 mI 95 ls [.int 1]) rfl ?_
                    have e9 : sp_give A s 0 f = (1, (u2 A 10 (ix (A 0 (ix s))) (A 0 (ix f)))) := by
                      simp only [sp_give, inb, decide_true, decide_false, Bool.not_false, Bool.not_true, Bool.and_true, Bool.true_and, Bool.false_and, Bool.and_false, Bool.and_self, rfi, rfj, wHv, wRw, wSl, h_1, h_3, c_5, c_6, h_7, h_21, h_29, h_31, eqb_00, eqb_10, eqb_20, eqb_30, eqb_50, eqb_11, eqb_21, reduceIte, Bool.false_eq_true, not_true_eq_false, not_false_eq_true, ite_self]
                    exact g_iret hx hb hr hlocks hI ⟨_, rfl, by rw [e9], aa, nn, by omega, by rw [e9]; exact hS⟩ dX10_give_95 (by omega) (by omega)
                  · have _ := 0
                    refine g_callS (own := RX10) (index := 50) (n := 2) hx hb hml hown hts (c_X10_isNoPart_0f l E b0 _ (aa (4 * ix (A 0 (ix f)))) _ _ (hS.at hn t_20 h_7) (cix_in _) (hS.gs hn t_20 h_7 7 (by decide) h_31)) m_ml_X10_50 m_st_X10_isNoPart m_in_X10 m_co_X10_isNoPart (by decide +kernel) ⟨Nat.le_of_ble_eq_true rfl, Nat.le_of_ble_eq_true rfl⟩ ⟨by first | exact Nat.le_of_ble_eq_true rfl | (show _ ≤ 2; omega), by first | exact Nat.le_of_ble_eq_true rfl | (show _ ≤ 160; omega)⟩ rfl hl.1 rfl (Nat.le_of_ble_eq_true rfl) dX10_give_48 hK hI (fun r G1 H1 L1 hp hI => ?_)
                    obtain ⟨v, rfl, ev, hGe⟩ := hp
                    subst ev
                    rw [hGe] at hI
                    refine W.eq (g2 := F0 mI 51 ls [.int 1]) rfl ?_
                    refine lv_if_eq (tgt := 60) hx hb dX10_give_51 (by decide) (fun c_33 => absurd c_33 (by decide)) (fun _ => ?_)
                    refine lv_aload_n hx hb dX10_give_54 rfl (lv_at hl 1 rfl) ?_
                    refine lv_iconst (v := 5) hx hb dX10_give_55 (by decide) ?_
                    refine g_callV (own := RX10) (index := 31) (n := 1) hx hb hml hown hts (c_X10_refuse l E b0 _ _ aa _ nn hS hn 5 (vp_in_iff.mpr (by decide))) hS.2.2.2.1 rfl rfl m_ml_X10_31 m_im_X10_refuse m_se_X10_X10_refuse_X10_refuse m_in_X10 m_co_X10_refuse (by decide +kernel) ⟨Nat.le_of_ble_eq_true rfl, Nat.le_of_ble_eq_true rfl⟩ ⟨by first | exact Nat.le_of_ble_eq_true rfl | (show _ ≤ 2; omega), by first | exact Nat.le_of_ble_eq_true rfl | (show _ ≤ 160; omega)⟩ rfl hl.1 rfl (Nat.le_of_ble_eq_true rfl) dX10_give_56 hK hI (fun r G1 H1 L1 hp hI => ?_)
                    obtain ⟨v, rfl, ev, hS⟩ := hp
                    subst ev
                    refine W.eq (g2 := F0 mI 59 ls [.int (-10 - 5)]) rfl ?_
                    have e9 : sp_give A s 0 f = ((-10 - 5), (rfs A 5)) := by
                      simp only [sp_give, inb, decide_true, decide_false, Bool.not_false, Bool.not_true, Bool.and_true, Bool.true_and, Bool.false_and, Bool.and_false, Bool.and_self, rfi, rfj, wHv, wRw, wSl, h_1, h_3, c_5, c_6, h_7, h_21, h_29, h_31, eqb_00, eqb_10, eqb_20, eqb_30, eqb_50, eqb_11, eqb_21, reduceIte, Bool.false_eq_true, not_true_eq_false, not_false_eq_true, ite_self]
                    exact g_iret hx hb hr hlocks hI ⟨_, rfl, by rw [e9], aa, nn, by omega, by rw [e9]; exact hS⟩ dX10_give_59 (by omega) (by omega)
                · have _ := 0
                  refine g_callS (own := RX10) (index := 46) (n := 1) hx hb hml hown hts (c_X10_isNoHive_f l E b0 _ (aa (4 * ix (A 0 (ix s)))) _ _ (hS.at hn t_28 h_21) (cix_in _) (hS.gs hn t_28 h_21 5 (by decide) h_29)) m_ml_X10_46 m_st_X10_isNoHive m_in_X10 m_co_X10_isNoHive (by decide +kernel) ⟨Nat.le_of_ble_eq_true rfl, Nat.le_of_ble_eq_true rfl⟩ ⟨by first | exact Nat.le_of_ble_eq_true rfl | (show _ ≤ 2; omega), by first | exact Nat.le_of_ble_eq_true rfl | (show _ ≤ 160; omega)⟩ rfl hl.1 rfl (Nat.le_of_ble_eq_true rfl) dX10_give_39 hK hI (fun r G1 H1 L1 hp hI => ?_)
                  obtain ⟨v, rfl, ev, hGe⟩ := hp
                  subst ev
                  rw [hGe] at hI
                  refine W.eq (g2 := F0 mI 42 ls [.int 1]) rfl ?_
                  refine lv_if_ne (tgt := 54) hx hb dX10_give_42 (by decide) (fun _ => ?_) (fun c_34 => absurd c_34 (by decide))
                  refine lv_aload_n hx hb dX10_give_54 rfl (lv_at hl 1 rfl) ?_
                  refine lv_iconst (v := 5) hx hb dX10_give_55 (by decide) ?_
                  refine g_callV (own := RX10) (index := 31) (n := 1) hx hb hml hown hts (c_X10_refuse l E b0 _ _ aa _ nn hS hn 5 (vp_in_iff.mpr (by decide))) hS.2.2.2.1 rfl rfl m_ml_X10_31 m_im_X10_refuse m_se_X10_X10_refuse_X10_refuse m_in_X10 m_co_X10_refuse (by decide +kernel) ⟨Nat.le_of_ble_eq_true rfl, Nat.le_of_ble_eq_true rfl⟩ ⟨by first | exact Nat.le_of_ble_eq_true rfl | (show _ ≤ 2; omega), by first | exact Nat.le_of_ble_eq_true rfl | (show _ ≤ 160; omega)⟩ rfl hl.1 rfl (Nat.le_of_ble_eq_true rfl) dX10_give_56 hK hI (fun r G1 H1 L1 hp hI => ?_)
                  obtain ⟨v, rfl, ev, hS⟩ := hp
                  subst ev
                  refine W.eq (g2 := F0 mI 59 ls [.int (-10 - 5)]) rfl ?_
                  have e9 : sp_give A s 0 f = ((-10 - 5), (rfs A 5)) := by
                    simp only [sp_give, inb, decide_true, decide_false, Bool.not_false, Bool.not_true, Bool.and_true, Bool.true_and, Bool.false_and, Bool.and_false, Bool.and_self, rfi, rfj, wHv, wRw, wSl, h_1, h_3, c_5, c_6, h_7, h_21, h_29, eqb_00, eqb_10, eqb_20, eqb_30, eqb_50, eqb_11, eqb_21, reduceIte, Bool.false_eq_true, not_true_eq_false, not_false_eq_true, ite_self]
                  exact g_iret hx hb hr hlocks hI ⟨_, rfl, by rw [e9], aa, nn, by omega, by rw [e9]; exact hS⟩ dX10_give_59 (by omega) (by omega)
          · have _ := 0
            refine lv_aload_n hx hb dX10_give_25 rfl (lv_at hl 0 rfl) ?_
            refine g_get (index := 11) (ci := 8) hx hb hts inlX10 hown hK hI hS.2.2.2.1 rfl 0 (by decide) m_fl_X10_11 (fun _ h9 => h9) rfl dX10_give_26 ?_
            refine lv_iload_n hx hb dX10_give_29 rfl (lv_at hl 3 rfl) ?_
            rcases btf (eqb (A 0 (ix f)) 0) with h_35 | h_35
            · have z_36 := fun lo hi => fit_0 (A := A) lo hi h_35
              have t_37 : tv nn (A 0 (ix f)) := (hS.tsh h_3)
              refine g_aald hx hb hK hI 1 hS.2.2.2.2.1 rfl (sh_in h_3) dX10_give_30 ?_
              refine W.eq (g2 := F0 mI 31 ls [.null]) (by rw [show shf aa A (Int32.toNatClampNeg f) = adr aa (A 0 (ix f)) from shf_at h_3, adr_n h_35]; rfl) ?_
              refine lv_astoreN (lv' := [(4, .null), (0, .ref (aa 0)), (1, .int s), (2, .int 1), (3, .int f)]) hx hb dX10_give_31 hl (by decide) rfl (fun ls hl => ?_)
              refine lv_aload_n hx hb dX10_give_33 rfl (lv_at hl 1 rfl) ?_
              refine g_get (index := 11) (ci := 8) hx hb hts inlX10 hown hK hI hS.2.2.2.1 rfl 0 (by decide) m_fl_X10_11 (fun _ h9 => h9) rfl dX10_give_34 ?_
              refine lv_iload_n hx hb dX10_give_37 rfl (lv_at hl 2 rfl) ?_
              rcases btf (eqb (A 0 (ix s)) 0) with h_38 | h_38
              · have z_39 := fun lo hi => fit_0 (A := A) lo hi h_38
                have t_40 : tv nn (A 0 (ix s)) := (hS.tsh h_1)
                refine g_aald hx hb hK hI 1 hS.2.2.2.2.1 rfl (sh_in h_1) dX10_give_38 ?_
                refine W.eq (g2 := F0 mI 39 ls [.null]) (by rw [show shf aa A (Int32.toNatClampNeg s) = adr aa (A 0 (ix s)) from shf_at h_1, adr_n h_38]; rfl) ?_
                refine g_callS (own := RX10) (index := 46) (n := 1) hx hb hml hown hts (c_X10_isNoHive_n l E b0 _) m_ml_X10_46 m_st_X10_isNoHive m_in_X10 m_co_X10_isNoHive (by decide +kernel) ⟨Nat.le_of_ble_eq_true rfl, Nat.le_of_ble_eq_true rfl⟩ ⟨by first | exact Nat.le_of_ble_eq_true rfl | (show _ ≤ 2; omega), by first | exact Nat.le_of_ble_eq_true rfl | (show _ ≤ 160; omega)⟩ rfl hl.1 rfl (Nat.le_of_ble_eq_true rfl) dX10_give_39 hK hI (fun r G1 H1 L1 hp hI => ?_)
                obtain ⟨v, rfl, ev, hGe⟩ := hp
                subst ev
                rw [hGe] at hI
                refine W.eq (g2 := F0 mI 42 ls [.int 0]) rfl ?_
                refine lv_if_ne (tgt := 54) hx hb dX10_give_42 (by decide) (fun c_41 => absurd c_41 (by decide)) (fun _ => ?_)
                refine lv_aloadN hx hb dX10_give_45 (lv_at hl 0 rfl) ?_
                refine lv_iload_n hx hb dX10_give_47 rfl (lv_at hl 3 rfl) ?_
                refine g_callS (own := RX10) (index := 50) (n := 2) hx hb hml hown hts (c_X10_isNoPart_n l E b0 _ 1) m_ml_X10_50 m_st_X10_isNoPart m_in_X10 m_co_X10_isNoPart (by decide +kernel) ⟨Nat.le_of_ble_eq_true rfl, Nat.le_of_ble_eq_true rfl⟩ ⟨by first | exact Nat.le_of_ble_eq_true rfl | (show _ ≤ 2; omega), by first | exact Nat.le_of_ble_eq_true rfl | (show _ ≤ 160; omega)⟩ rfl hl.1 rfl (Nat.le_of_ble_eq_true rfl) dX10_give_48 hK hI (fun r G1 H1 L1 hp hI => ?_)
                obtain ⟨v, rfl, ev, hGe⟩ := hp
                subst ev
                rw [hGe] at hI
                refine W.eq (g2 := F0 mI 51 ls [.int 0]) rfl ?_
                refine lv_if_eq (tgt := 60) hx hb dX10_give_51 (by decide) (fun _ => ?_) (fun c_42 => absurd c_42 (by decide))
                refine lv_aload_n hx hb dX10_give_60 rfl (lv_at hl 1 rfl) ?_
                refine g_get (index := 11) (ci := 8) hx hb hts inlX10 hown hK hI hS.2.2.2.1 rfl 0 (by decide) m_fl_X10_11 (fun _ h9 => h9) rfl dX10_give_61 ?_
                refine lv_iload_n hx hb dX10_give_64 rfl (lv_at hl 2 rfl) ?_
                refine g_aald hx hb hK hI 1 hS.2.2.2.2.1 rfl (sh_in h_1) dX10_give_65 ?_
                refine W.eq (g2 := F0 mI 66 ls [.null]) (by rw [show shf aa A (Int32.toNatClampNeg s) = adr aa (A 0 (ix s)) from shf_at h_1, adr_n h_38]; rfl) ?_
                refine g_callS (own := RX10) (index := 54) (n := 1) hx hb hml hown hts (c_X10_asHive_n l E b0 _) m_ml_X10_54 m_st_X10_asHive m_in_X10 m_co_X10_asHive (by decide +kernel) ⟨Nat.le_of_ble_eq_true rfl, Nat.le_of_ble_eq_true rfl⟩ ⟨by first | exact Nat.le_of_ble_eq_true rfl | (show _ ≤ 2; omega), by first | exact Nat.le_of_ble_eq_true rfl | (show _ ≤ 160; omega)⟩ rfl hl.1 rfl (Nat.le_of_ble_eq_true rfl) dX10_give_66 hK hI (fun r G1 H1 L1 hp hI => ?_)
                obtain ⟨v, rfl, ev, hGe⟩ := hp
                subst ev
                rw [hGe] at hI
                refine W.eq (g2 := F0 mI 69 ls [.null]) rfl ?_
                refine lv_astoreN (lv' := [(5, .null), (4, .null), (0, .ref (aa 0)), (1, .int s), (2, .int 1), (3, .int f)]) hx hb dX10_give_69 hl (by decide) rfl (fun ls hl => ?_)
                refine lv_aloadN hx hb dX10_give_71 (lv_at hl 0 rfl) ?_
                refine lv_ifnonnullN hx hb dX10_give_73 ?_
                refine lv_aload_n hx hb dX10_give_76 rfl (lv_at hl 2 rfl) ?_
                refine lv_iconst (v := 1) hx hb dX10_give_77 (by decide) ?_
                refine g_callV (own := RX10) (index := 31) (n := 1) hx hb hml hown hts (c_X10_refuse l E b0 _ _ aa _ nn hS hn 1 (vp_in_iff.mpr (by decide))) hS.2.2.2.1 rfl rfl m_ml_X10_31 m_im_X10_refuse m_se_X10_X10_refuse_X10_refuse m_in_X10 m_co_X10_refuse (by decide +kernel) ⟨Nat.le_of_ble_eq_true rfl, Nat.le_of_ble_eq_true rfl⟩ ⟨by first | exact Nat.le_of_ble_eq_true rfl | (show _ ≤ 2; omega), by first | exact Nat.le_of_ble_eq_true rfl | (show _ ≤ 160; omega)⟩ rfl hl.1 rfl (Nat.le_of_ble_eq_true rfl) dX10_give_78 hK hI (fun r G1 H1 L1 hp hI => ?_)
                obtain ⟨v, rfl, ev, hS⟩ := hp
                subst ev
                refine W.eq (g2 := F0 mI 81 ls [.int (-10 - 1)]) rfl ?_
                have e9 : sp_give A s 1 f = ((-10 - 1), (rfs A 1)) := by
                  simp only [sp_give, inb, decide_true, decide_false, Bool.not_false, Bool.not_true, Bool.and_true, Bool.true_and, Bool.false_and, Bool.and_false, Bool.and_self, rfi, rfj, wHv, wRw, wSl, h_1, h_3, c_5, c_6, h_35, z_36, h_38, z_39, eqb_00, eqb_10, eqb_20, eqb_30, eqb_50, eqb_11, eqb_21, reduceIte, Bool.false_eq_true, not_true_eq_false, not_false_eq_true, ite_self]
                exact g_iret hx hb hr hlocks hI ⟨_, rfl, by rw [e9], aa, nn, by omega, by rw [e9]; exact hS⟩ dX10_give_81 (by omega) (by omega)
              · have _ := 0
                have t_43 : tv nn (A 0 (ix s)) := (hS.tsh h_1)
                refine g_aald hx hb hK hI 1 hS.2.2.2.2.1 rfl (sh_in h_1) dX10_give_38 ?_
                refine W.eq (g2 := F0 mI 39 ls [.ref (aa (4 * ix (A 0 (ix s))))]) (by rw [show shf aa A (Int32.toNatClampNeg s) = adr aa (A 0 (ix s)) from shf_at h_1, adr_s h_38]; rfl) ?_
                rcases btf (fit A (A 0 (ix s)) 6 7) with h_44 | h_44
                · have _ := 0
                  refine g_callS (own := RX10) (index := 46) (n := 1) hx hb hml hown hts (c_X10_isNoHive_y l E b0 _ (aa (4 * ix (A 0 (ix s)))) _ _ (hS.at hn t_43 h_38) (cix_in _) (hS.gs hn t_43 h_38 5 (by decide) h_44)) m_ml_X10_46 m_st_X10_isNoHive m_in_X10 m_co_X10_isNoHive (by decide +kernel) ⟨Nat.le_of_ble_eq_true rfl, Nat.le_of_ble_eq_true rfl⟩ ⟨by first | exact Nat.le_of_ble_eq_true rfl | (show _ ≤ 2; omega), by first | exact Nat.le_of_ble_eq_true rfl | (show _ ≤ 160; omega)⟩ rfl hl.1 rfl (Nat.le_of_ble_eq_true rfl) dX10_give_39 hK hI (fun r G1 H1 L1 hp hI => ?_)
                  obtain ⟨v, rfl, ev, hGe⟩ := hp
                  subst ev
                  rw [hGe] at hI
                  refine W.eq (g2 := F0 mI 42 ls [.int 0]) rfl ?_
                  refine lv_if_ne (tgt := 54) hx hb dX10_give_42 (by decide) (fun c_45 => absurd c_45 (by decide)) (fun _ => ?_)
                  refine lv_aloadN hx hb dX10_give_45 (lv_at hl 0 rfl) ?_
                  refine lv_iload_n hx hb dX10_give_47 rfl (lv_at hl 3 rfl) ?_
                  refine g_callS (own := RX10) (index := 50) (n := 2) hx hb hml hown hts (c_X10_isNoPart_n l E b0 _ 1) m_ml_X10_50 m_st_X10_isNoPart m_in_X10 m_co_X10_isNoPart (by decide +kernel) ⟨Nat.le_of_ble_eq_true rfl, Nat.le_of_ble_eq_true rfl⟩ ⟨by first | exact Nat.le_of_ble_eq_true rfl | (show _ ≤ 2; omega), by first | exact Nat.le_of_ble_eq_true rfl | (show _ ≤ 160; omega)⟩ rfl hl.1 rfl (Nat.le_of_ble_eq_true rfl) dX10_give_48 hK hI (fun r G1 H1 L1 hp hI => ?_)
                  obtain ⟨v, rfl, ev, hGe⟩ := hp
                  subst ev
                  rw [hGe] at hI
                  refine W.eq (g2 := F0 mI 51 ls [.int 0]) rfl ?_
                  refine lv_if_eq (tgt := 60) hx hb dX10_give_51 (by decide) (fun _ => ?_) (fun c_46 => absurd c_46 (by decide))
                  refine lv_aload_n hx hb dX10_give_60 rfl (lv_at hl 1 rfl) ?_
                  refine g_get (index := 11) (ci := 8) hx hb hts inlX10 hown hK hI hS.2.2.2.1 rfl 0 (by decide) m_fl_X10_11 (fun _ h9 => h9) rfl dX10_give_61 ?_
                  refine lv_iload_n hx hb dX10_give_64 rfl (lv_at hl 2 rfl) ?_
                  refine g_aald hx hb hK hI 1 hS.2.2.2.2.1 rfl (sh_in h_1) dX10_give_65 ?_
                  refine W.eq (g2 := F0 mI 66 ls [.ref (aa (4 * ix (A 0 (ix s))))]) (by rw [show shf aa A (Int32.toNatClampNeg s) = adr aa (A 0 (ix s)) from shf_at h_1, adr_s h_38]; rfl) ?_
                  refine g_callS (own := RX10) (index := 54) (n := 1) hx hb hml hown hts (c_X10_asHive_y l E b0 _ (aa (4 * ix (A 0 (ix s)))) _ _ (hS.at hn t_43 h_38) (cix_in _) (hS.gs hn t_43 h_38 5 (by decide) h_44)) m_ml_X10_54 m_st_X10_asHive m_in_X10 m_co_X10_asHive (by decide +kernel) ⟨Nat.le_of_ble_eq_true rfl, Nat.le_of_ble_eq_true rfl⟩ ⟨by first | exact Nat.le_of_ble_eq_true rfl | (show _ ≤ 2; omega), by first | exact Nat.le_of_ble_eq_true rfl | (show _ ≤ 160; omega)⟩ rfl hl.1 rfl (Nat.le_of_ble_eq_true rfl) dX10_give_66 hK hI (fun r G1 H1 L1 hp hI => ?_)
                  obtain ⟨v, rfl, ev, hGe⟩ := hp
                  subst ev
                  rw [hGe] at hI
                  refine W.eq (g2 := F0 mI 69 ls [.ref (aa (4 * ix (A 0 (ix s))))]) rfl ?_
                  refine lv_astore (lv' := [(5, .ref (aa (4 * ix (A 0 (ix s))))), (4, .null), (0, .ref (aa 0)), (1, .int s), (2, .int 1), (3, .int f)]) hx hb dX10_give_69 hl (by decide) rfl (fun ls hl => ?_)
                  refine lv_aload hx hb dX10_give_71 (lv_at hl 0 rfl) ?_
                  refine lv_ifnonnull (tgt := 82) hx hb dX10_give_73 (by decide) ?_
                  refine lv_aload hx hb dX10_give_82 (lv_at hl 0 rfl) ?_
                  refine lv_iload_n hx hb dX10_give_84 rfl (lv_at hl 4 rfl) ?_
                  refine lv_aloadN hx hb dX10_give_85 (lv_at hl 1 rfl) ?_
                  refine g_callV (own := RX10) (index := 58) (n := 2) hx hb hml hown hts (c_X5_changePart_1n l E b0 _ (aa (4 * ix (A 0 (ix s)))) _ _ _ _ _ _ (hS.hv hn t_43 h_38 h_44)) (hS.hv hn t_43 h_38 h_44) rfl rfl m_ml_X10_58 m_im_X5_changePart m_se_X5_X5_changePart_X5_changePart m_in_X5 m_co_X5_changePart (by decide +kernel) ⟨Nat.le_of_ble_eq_true rfl, Nat.le_of_ble_eq_true rfl⟩ ⟨by first | exact Nat.le_of_ble_eq_true rfl | (show _ ≤ 2; omega), by first | exact Nat.le_of_ble_eq_true rfl | (show _ ≤ 160; omega)⟩ rfl hl.1 rfl (Nat.le_of_ble_eq_true rfl) dX10_give_87 hK hI (fun r G1 H1 L1 hp hI => ?_)
                  obtain ⟨rfl, hGe⟩ := hp
                  rw [hGe] at hI
                  have hy : (.inr (5, _) : va_E) = _ := hvf_u (aa := aa) 11 (A 0 (ix f)) (by rw [← fit_so h_38]; exact h_44) (hS.so hn t_43 h_38) (by decide)
                  rw [adr_n h_35] at hy
                  have hS := SW.p10 hS 11 (by decide) (ix (A 0 (ix s))) (t_43.pos hn h_38) (t_43.ixle hn).1 (w := (A 0 (ix f))) t_37 (by exact (fit_0 _ _ h_35)) hy
                  refine W.eq (g2 := F0 mI 90 ls []) rfl ?_
                  refine lv_aloadN hx hb dX10_give_90 (lv_at hl 1 rfl) ?_
                  refine g_callS (own := RX10) (index := 42) (n := 1) hx hb hml hown hts (c_X10_oneIfThing_n l E b0 _) m_ml_X10_42 m_st_X10_oneIfThing m_in_X10 m_co_X10_oneIfThing (by decide +kernel) ⟨Nat.le_of_ble_eq_true rfl, Nat.le_of_ble_eq_true rfl⟩ ⟨by first | exact Nat.le_of_ble_eq_true rfl | (show _ ≤ 2; omega), by first | exact Nat.le_of_ble_eq_true rfl | (show _ ≤ 160; omega)⟩ rfl hl.1 rfl (Nat.le_of_ble_eq_true rfl) dX10_give_92 hK hI (fun r G1 H1 L1 hp hI => ?_)
                  obtain ⟨v, rfl, ev, hGe⟩ := hp
                  subst ev
                  rw [hGe] at hI
                  refine W.eq (g2 := F0 mI 95 ls [.int 0]) rfl ?_
                  have e9 : sp_give A s 1 f = (0, (u2 A 11 (ix (A 0 (ix s))) (A 0 (ix f)))) := by
                    simp only [sp_give, inb, decide_true, decide_false, Bool.not_false, Bool.not_true, Bool.and_true, Bool.true_and, Bool.false_and, Bool.and_false, Bool.and_self, rfi, rfj, wHv, wRw, wSl, h_1, h_3, c_5, c_6, h_35, z_36, h_38, h_44, eqb_00, eqb_10, eqb_20, eqb_30, eqb_50, eqb_11, eqb_21, reduceIte, Bool.false_eq_true, not_true_eq_false, not_false_eq_true, ite_self]
                  exact g_iret hx hb hr hlocks hI ⟨_, rfl, by rw [e9], aa, nn, by omega, by rw [e9]; exact hS⟩ dX10_give_95 (by omega) (by omega)
                · have _ := 0
                  refine g_callS (own := RX10) (index := 46) (n := 1) hx hb hml hown hts (c_X10_isNoHive_f l E b0 _ (aa (4 * ix (A 0 (ix s)))) _ _ (hS.at hn t_43 h_38) (cix_in _) (hS.gs hn t_43 h_38 5 (by decide) h_44)) m_ml_X10_46 m_st_X10_isNoHive m_in_X10 m_co_X10_isNoHive (by decide +kernel) ⟨Nat.le_of_ble_eq_true rfl, Nat.le_of_ble_eq_true rfl⟩ ⟨by first | exact Nat.le_of_ble_eq_true rfl | (show _ ≤ 2; omega), by first | exact Nat.le_of_ble_eq_true rfl | (show _ ≤ 160; omega)⟩ rfl hl.1 rfl (Nat.le_of_ble_eq_true rfl) dX10_give_39 hK hI (fun r G1 H1 L1 hp hI => ?_)
                  obtain ⟨v, rfl, ev, hGe⟩ := hp
                  subst ev
                  rw [hGe] at hI
                  refine W.eq (g2 := F0 mI 42 ls [.int 1]) rfl ?_
                  refine lv_if_ne (tgt := 54) hx hb dX10_give_42 (by decide) (fun _ => ?_) (fun c_47 => absurd c_47 (by decide))
                  refine lv_aload_n hx hb dX10_give_54 rfl (lv_at hl 1 rfl) ?_
                  refine lv_iconst (v := 5) hx hb dX10_give_55 (by decide) ?_
                  refine g_callV (own := RX10) (index := 31) (n := 1) hx hb hml hown hts (c_X10_refuse l E b0 _ _ aa _ nn hS hn 5 (vp_in_iff.mpr (by decide))) hS.2.2.2.1 rfl rfl m_ml_X10_31 m_im_X10_refuse m_se_X10_X10_refuse_X10_refuse m_in_X10 m_co_X10_refuse (by decide +kernel) ⟨Nat.le_of_ble_eq_true rfl, Nat.le_of_ble_eq_true rfl⟩ ⟨by first | exact Nat.le_of_ble_eq_true rfl | (show _ ≤ 2; omega), by first | exact Nat.le_of_ble_eq_true rfl | (show _ ≤ 160; omega)⟩ rfl hl.1 rfl (Nat.le_of_ble_eq_true rfl) dX10_give_56 hK hI (fun r G1 H1 L1 hp hI => ?_)
                  obtain ⟨v, rfl, ev, hS⟩ := hp
                  subst ev
                  refine W.eq (g2 := F0 mI 59 ls [.int (-10 - 5)]) rfl ?_
                  have e9 : sp_give A s 1 f = ((-10 - 5), (rfs A 5)) := by
                    simp only [sp_give, inb, decide_true, decide_false, Bool.not_false, Bool.not_true, Bool.and_true, Bool.true_and, Bool.false_and, Bool.and_false, Bool.and_self, rfi, rfj, wHv, wRw, wSl, h_1, h_3, c_5, c_6, h_35, z_36, h_38, h_44, eqb_00, eqb_10, eqb_20, eqb_30, eqb_50, eqb_11, eqb_21, reduceIte, Bool.false_eq_true, not_true_eq_false, not_false_eq_true, ite_self]
                  exact g_iret hx hb hr hlocks hI ⟨_, rfl, by rw [e9], aa, nn, by omega, by rw [e9]; exact hS⟩ dX10_give_59 (by omega) (by omega)
            · have _ := 0
              have t_48 : tv nn (A 0 (ix f)) := (hS.tsh h_3)
              refine g_aald hx hb hK hI 1 hS.2.2.2.2.1 rfl (sh_in h_3) dX10_give_30 ?_
              refine W.eq (g2 := F0 mI 31 ls [.ref (aa (4 * ix (A 0 (ix f))))]) (by rw [show shf aa A (Int32.toNatClampNeg f) = adr aa (A 0 (ix f)) from shf_at h_3, adr_s h_35]; rfl) ?_
              refine lv_astore (lv' := [(4, .ref (aa (4 * ix (A 0 (ix f))))), (0, .ref (aa 0)), (1, .int s), (2, .int 1), (3, .int f)]) hx hb dX10_give_31 hl (by decide) rfl (fun ls hl => ?_)
              refine lv_aload_n hx hb dX10_give_33 rfl (lv_at hl 1 rfl) ?_
              refine g_get (index := 11) (ci := 8) hx hb hts inlX10 hown hK hI hS.2.2.2.1 rfl 0 (by decide) m_fl_X10_11 (fun _ h9 => h9) rfl dX10_give_34 ?_
              refine lv_iload_n hx hb dX10_give_37 rfl (lv_at hl 2 rfl) ?_
              rcases btf (eqb (A 0 (ix s)) 0) with h_49 | h_49
              · have z_50 := fun lo hi => fit_0 (A := A) lo hi h_49
                have t_51 : tv nn (A 0 (ix s)) := (hS.tsh h_1)
                refine g_aald hx hb hK hI 1 hS.2.2.2.2.1 rfl (sh_in h_1) dX10_give_38 ?_
                refine W.eq (g2 := F0 mI 39 ls [.null]) (by rw [show shf aa A (Int32.toNatClampNeg s) = adr aa (A 0 (ix s)) from shf_at h_1, adr_n h_49]; rfl) ?_
                refine g_callS (own := RX10) (index := 46) (n := 1) hx hb hml hown hts (c_X10_isNoHive_n l E b0 _) m_ml_X10_46 m_st_X10_isNoHive m_in_X10 m_co_X10_isNoHive (by decide +kernel) ⟨Nat.le_of_ble_eq_true rfl, Nat.le_of_ble_eq_true rfl⟩ ⟨by first | exact Nat.le_of_ble_eq_true rfl | (show _ ≤ 2; omega), by first | exact Nat.le_of_ble_eq_true rfl | (show _ ≤ 160; omega)⟩ rfl hl.1 rfl (Nat.le_of_ble_eq_true rfl) dX10_give_39 hK hI (fun r G1 H1 L1 hp hI => ?_)
                obtain ⟨v, rfl, ev, hGe⟩ := hp
                subst ev
                rw [hGe] at hI
                refine W.eq (g2 := F0 mI 42 ls [.int 0]) rfl ?_
                refine lv_if_ne (tgt := 54) hx hb dX10_give_42 (by decide) (fun c_52 => absurd c_52 (by decide)) (fun _ => ?_)
                refine lv_aload hx hb dX10_give_45 (lv_at hl 0 rfl) ?_
                refine lv_iload_n hx hb dX10_give_47 rfl (lv_at hl 3 rfl) ?_
                rcases btf (fit A (A 0 (ix f)) 3 4) with h_53 | h_53
                · have _ := 0
                  refine g_callS (own := RX10) (index := 50) (n := 2) hx hb hml hown hts (c_X10_isNoPart_1y l E b0 _ (aa (4 * ix (A 0 (ix f)))) _ _ (hS.at hn t_48 h_35) (cix_in _) (hS.gs hn t_48 h_35 6 (by decide) h_53)) m_ml_X10_50 m_st_X10_isNoPart m_in_X10 m_co_X10_isNoPart (by decide +kernel) ⟨Nat.le_of_ble_eq_true rfl, Nat.le_of_ble_eq_true rfl⟩ ⟨by first | exact Nat.le_of_ble_eq_true rfl | (show _ ≤ 2; omega), by first | exact Nat.le_of_ble_eq_true rfl | (show _ ≤ 160; omega)⟩ rfl hl.1 rfl (Nat.le_of_ble_eq_true rfl) dX10_give_48 hK hI (fun r G1 H1 L1 hp hI => ?_)
                  obtain ⟨v, rfl, ev, hGe⟩ := hp
                  subst ev
                  rw [hGe] at hI
                  refine W.eq (g2 := F0 mI 51 ls [.int 0]) rfl ?_
                  refine lv_if_eq (tgt := 60) hx hb dX10_give_51 (by decide) (fun _ => ?_) (fun c_54 => absurd c_54 (by decide))
                  refine lv_aload_n hx hb dX10_give_60 rfl (lv_at hl 1 rfl) ?_
                  refine g_get (index := 11) (ci := 8) hx hb hts inlX10 hown hK hI hS.2.2.2.1 rfl 0 (by decide) m_fl_X10_11 (fun _ h9 => h9) rfl dX10_give_61 ?_
                  refine lv_iload_n hx hb dX10_give_64 rfl (lv_at hl 2 rfl) ?_
                  refine g_aald hx hb hK hI 1 hS.2.2.2.2.1 rfl (sh_in h_1) dX10_give_65 ?_
                  refine W.eq (g2 := F0 mI 66 ls [.null]) (by rw [show shf aa A (Int32.toNatClampNeg s) = adr aa (A 0 (ix s)) from shf_at h_1, adr_n h_49]; rfl) ?_
                  refine g_callS (own := RX10) (index := 54) (n := 1) hx hb hml hown hts (c_X10_asHive_n l E b0 _) m_ml_X10_54 m_st_X10_asHive m_in_X10 m_co_X10_asHive (by decide +kernel) ⟨Nat.le_of_ble_eq_true rfl, Nat.le_of_ble_eq_true rfl⟩ ⟨by first | exact Nat.le_of_ble_eq_true rfl | (show _ ≤ 2; omega), by first | exact Nat.le_of_ble_eq_true rfl | (show _ ≤ 160; omega)⟩ rfl hl.1 rfl (Nat.le_of_ble_eq_true rfl) dX10_give_66 hK hI (fun r G1 H1 L1 hp hI => ?_)
                  obtain ⟨v, rfl, ev, hGe⟩ := hp
                  subst ev
                  rw [hGe] at hI
                  refine W.eq (g2 := F0 mI 69 ls [.null]) rfl ?_
                  refine lv_astoreN (lv' := [(5, .null), (4, .ref (aa (4 * ix (A 0 (ix f))))), (0, .ref (aa 0)), (1, .int s), (2, .int 1), (3, .int f)]) hx hb dX10_give_69 hl (by decide) rfl (fun ls hl => ?_)
                  refine lv_aloadN hx hb dX10_give_71 (lv_at hl 0 rfl) ?_
                  refine lv_ifnonnullN hx hb dX10_give_73 ?_
                  refine lv_aload_n hx hb dX10_give_76 rfl (lv_at hl 2 rfl) ?_
                  refine lv_iconst (v := 1) hx hb dX10_give_77 (by decide) ?_
                  refine g_callV (own := RX10) (index := 31) (n := 1) hx hb hml hown hts (c_X10_refuse l E b0 _ _ aa _ nn hS hn 1 (vp_in_iff.mpr (by decide))) hS.2.2.2.1 rfl rfl m_ml_X10_31 m_im_X10_refuse m_se_X10_X10_refuse_X10_refuse m_in_X10 m_co_X10_refuse (by decide +kernel) ⟨Nat.le_of_ble_eq_true rfl, Nat.le_of_ble_eq_true rfl⟩ ⟨by first | exact Nat.le_of_ble_eq_true rfl | (show _ ≤ 2; omega), by first | exact Nat.le_of_ble_eq_true rfl | (show _ ≤ 160; omega)⟩ rfl hl.1 rfl (Nat.le_of_ble_eq_true rfl) dX10_give_78 hK hI (fun r G1 H1 L1 hp hI => ?_)
                  obtain ⟨v, rfl, ev, hS⟩ := hp
                  subst ev
                  refine W.eq (g2 := F0 mI 81 ls [.int (-10 - 1)]) rfl ?_
                  have e9 : sp_give A s 1 f = ((-10 - 1), (rfs A 1)) := by
                    simp only [sp_give, inb, decide_true, decide_false, Bool.not_false, Bool.not_true, Bool.and_true, Bool.true_and, Bool.false_and, Bool.and_false, Bool.and_self, rfi, rfj, wHv, wRw, wSl, h_1, h_3, c_5, c_6, h_35, h_49, z_50, h_53, eqb_00, eqb_10, eqb_20, eqb_30, eqb_50, eqb_11, eqb_21, reduceIte, Bool.false_eq_true, not_true_eq_false, not_false_eq_true, ite_self]
                  exact g_iret hx hb hr hlocks hI ⟨_, rfl, by rw [e9], aa, nn, by omega, by rw [e9]; exact hS⟩ dX10_give_81 (by omega) (by omega)
                · have _ := 0
                  refine g_callS (own := RX10) (index := 50) (n := 2) hx hb hml hown hts (c_X10_isNoPart_1f l E b0 _ (aa (4 * ix (A 0 (ix f)))) _ _ (hS.at hn t_48 h_35) (cix_in _) (hS.gs hn t_48 h_35 6 (by decide) h_53)) m_ml_X10_50 m_st_X10_isNoPart m_in_X10 m_co_X10_isNoPart (by decide +kernel) ⟨Nat.le_of_ble_eq_true rfl, Nat.le_of_ble_eq_true rfl⟩ ⟨by first | exact Nat.le_of_ble_eq_true rfl | (show _ ≤ 2; omega), by first | exact Nat.le_of_ble_eq_true rfl | (show _ ≤ 160; omega)⟩ rfl hl.1 rfl (Nat.le_of_ble_eq_true rfl) dX10_give_48 hK hI (fun r G1 H1 L1 hp hI => ?_)
                  obtain ⟨v, rfl, ev, hGe⟩ := hp
                  subst ev
                  rw [hGe] at hI
                  refine W.eq (g2 := F0 mI 51 ls [.int 1]) rfl ?_
                  refine lv_if_eq (tgt := 60) hx hb dX10_give_51 (by decide) (fun c_55 => absurd c_55 (by decide)) (fun _ => ?_)
                  refine lv_aload_n hx hb dX10_give_54 rfl (lv_at hl 1 rfl) ?_
                  refine lv_iconst (v := 5) hx hb dX10_give_55 (by decide) ?_
                  refine g_callV (own := RX10) (index := 31) (n := 1) hx hb hml hown hts (c_X10_refuse l E b0 _ _ aa _ nn hS hn 5 (vp_in_iff.mpr (by decide))) hS.2.2.2.1 rfl rfl m_ml_X10_31 m_im_X10_refuse m_se_X10_X10_refuse_X10_refuse m_in_X10 m_co_X10_refuse (by decide +kernel) ⟨Nat.le_of_ble_eq_true rfl, Nat.le_of_ble_eq_true rfl⟩ ⟨by first | exact Nat.le_of_ble_eq_true rfl | (show _ ≤ 2; omega), by first | exact Nat.le_of_ble_eq_true rfl | (show _ ≤ 160; omega)⟩ rfl hl.1 rfl (Nat.le_of_ble_eq_true rfl) dX10_give_56 hK hI (fun r G1 H1 L1 hp hI => ?_)
                  obtain ⟨v, rfl, ev, hS⟩ := hp
                  subst ev
                  refine W.eq (g2 := F0 mI 59 ls [.int (-10 - 5)]) rfl ?_
                  have e9 : sp_give A s 1 f = ((-10 - 5), (rfs A 5)) := by
                    simp only [sp_give, inb, decide_true, decide_false, Bool.not_false, Bool.not_true, Bool.and_true, Bool.true_and, Bool.false_and, Bool.and_false, Bool.and_self, rfi, rfj, wHv, wRw, wSl, h_1, h_3, c_5, c_6, h_35, h_49, z_50, h_53, eqb_00, eqb_10, eqb_20, eqb_30, eqb_50, eqb_11, eqb_21, reduceIte, Bool.false_eq_true, not_true_eq_false, not_false_eq_true, ite_self]
                  exact g_iret hx hb hr hlocks hI ⟨_, rfl, by rw [e9], aa, nn, by omega, by rw [e9]; exact hS⟩ dX10_give_59 (by omega) (by omega)
              · have _ := 0
                have t_56 : tv nn (A 0 (ix s)) := (hS.tsh h_1)
                refine g_aald hx hb hK hI 1 hS.2.2.2.2.1 rfl (sh_in h_1) dX10_give_38 ?_
                refine W.eq (g2 := F0 mI 39 ls [.ref (aa (4 * ix (A 0 (ix s))))]) (by rw [show shf aa A (Int32.toNatClampNeg s) = adr aa (A 0 (ix s)) from shf_at h_1, adr_s h_49]; rfl) ?_
                rcases btf (fit A (A 0 (ix s)) 6 7) with h_57 | h_57
                · have _ := 0
                  refine g_callS (own := RX10) (index := 46) (n := 1) hx hb hml hown hts (c_X10_isNoHive_y l E b0 _ (aa (4 * ix (A 0 (ix s)))) _ _ (hS.at hn t_56 h_49) (cix_in _) (hS.gs hn t_56 h_49 5 (by decide) h_57)) m_ml_X10_46 m_st_X10_isNoHive m_in_X10 m_co_X10_isNoHive (by decide +kernel) ⟨Nat.le_of_ble_eq_true rfl, Nat.le_of_ble_eq_true rfl⟩ ⟨by first | exact Nat.le_of_ble_eq_true rfl | (show _ ≤ 2; omega), by first | exact Nat.le_of_ble_eq_true rfl | (show _ ≤ 160; omega)⟩ rfl hl.1 rfl (Nat.le_of_ble_eq_true rfl) dX10_give_39 hK hI (fun r G1 H1 L1 hp hI => ?_)
                  obtain ⟨v, rfl, ev, hGe⟩ := hp
                  subst ev
                  rw [hGe] at hI
                  refine W.eq (g2 := F0 mI 42 ls [.int 0]) rfl ?_
                  refine lv_if_ne (tgt := 54) hx hb dX10_give_42 (by decide) (fun c_58 => absurd c_58 (by decide)) (fun _ => ?_)
                  refine lv_aload hx hb dX10_give_45 (lv_at hl 0 rfl) ?_
                  refine lv_iload_n hx hb dX10_give_47 rfl (lv_at hl 3 rfl) ?_
                  rcases btf (fit A (A 0 (ix f)) 3 4) with h_59 | h_59
                  · have _ := 0
                    refine g_callS (own := RX10) (index := 50) (n := 2) hx hb hml hown hts (c_X10_isNoPart_1y l E b0 _ (aa (4 * ix (A 0 (ix f)))) _ _ (hS.at hn t_48 h_35) (cix_in _) (hS.gs hn t_48 h_35 6 (by decide) h_59)) m_ml_X10_50 m_st_X10_isNoPart m_in_X10 m_co_X10_isNoPart (by decide +kernel) ⟨Nat.le_of_ble_eq_true rfl, Nat.le_of_ble_eq_true rfl⟩ ⟨by first | exact Nat.le_of_ble_eq_true rfl | (show _ ≤ 2; omega), by first | exact Nat.le_of_ble_eq_true rfl | (show _ ≤ 160; omega)⟩ rfl hl.1 rfl (Nat.le_of_ble_eq_true rfl) dX10_give_48 hK hI (fun r G1 H1 L1 hp hI => ?_)
                    obtain ⟨v, rfl, ev, hGe⟩ := hp
                    subst ev
                    rw [hGe] at hI
                    refine W.eq (g2 := F0 mI 51 ls [.int 0]) rfl ?_
                    refine lv_if_eq (tgt := 60) hx hb dX10_give_51 (by decide) (fun _ => ?_) (fun c_60 => absurd c_60 (by decide))
                    refine lv_aload_n hx hb dX10_give_60 rfl (lv_at hl 1 rfl) ?_
                    refine g_get (index := 11) (ci := 8) hx hb hts inlX10 hown hK hI hS.2.2.2.1 rfl 0 (by decide) m_fl_X10_11 (fun _ h9 => h9) rfl dX10_give_61 ?_
                    refine lv_iload_n hx hb dX10_give_64 rfl (lv_at hl 2 rfl) ?_
                    refine g_aald hx hb hK hI 1 hS.2.2.2.2.1 rfl (sh_in h_1) dX10_give_65 ?_
                    refine W.eq (g2 := F0 mI 66 ls [.ref (aa (4 * ix (A 0 (ix s))))]) (by rw [show shf aa A (Int32.toNatClampNeg s) = adr aa (A 0 (ix s)) from shf_at h_1, adr_s h_49]; rfl) ?_
                    refine g_callS (own := RX10) (index := 54) (n := 1) hx hb hml hown hts (c_X10_asHive_y l E b0 _ (aa (4 * ix (A 0 (ix s)))) _ _ (hS.at hn t_56 h_49) (cix_in _) (hS.gs hn t_56 h_49 5 (by decide) h_57)) m_ml_X10_54 m_st_X10_asHive m_in_X10 m_co_X10_asHive (by decide +kernel) ⟨Nat.le_of_ble_eq_true rfl, Nat.le_of_ble_eq_true rfl⟩ ⟨by first | exact Nat.le_of_ble_eq_true rfl | (show _ ≤ 2; omega), by first | exact Nat.le_of_ble_eq_true rfl | (show _ ≤ 160; omega)⟩ rfl hl.1 rfl (Nat.le_of_ble_eq_true rfl) dX10_give_66 hK hI (fun r G1 H1 L1 hp hI => ?_)
                    obtain ⟨v, rfl, ev, hGe⟩ := hp
                    subst ev
                    rw [hGe] at hI
                    refine W.eq (g2 := F0 mI 69 ls [.ref (aa (4 * ix (A 0 (ix s))))]) rfl ?_
                    refine lv_astore (lv' := [(5, .ref (aa (4 * ix (A 0 (ix s))))), (4, .ref (aa (4 * ix (A 0 (ix f))))), (0, .ref (aa 0)), (1, .int s), (2, .int 1), (3, .int f)]) hx hb dX10_give_69 hl (by decide) rfl (fun ls hl => ?_)
                    refine lv_aload hx hb dX10_give_71 (lv_at hl 0 rfl) ?_
                    refine lv_ifnonnull (tgt := 82) hx hb dX10_give_73 (by decide) ?_
                    refine lv_aload hx hb dX10_give_82 (lv_at hl 0 rfl) ?_
                    refine lv_iload_n hx hb dX10_give_84 rfl (lv_at hl 4 rfl) ?_
                    refine lv_aload hx hb dX10_give_85 (lv_at hl 1 rfl) ?_
                    refine g_callV (own := RX10) (index := 58) (n := 2) hx hb hml hown hts (c_X5_changePart_1r l E b0 _ (aa (4 * ix (A 0 (ix f)))) _ _ (hS.at hn t_48 h_35) (cix_in _) (aa (4 * ix (A 0 (ix s)))) _ _ _ _ _ _ (hS.hv hn t_56 h_49 h_57) (hS.gs hn t_48 h_35 6 (by decide) h_59)) (hS.hv hn t_56 h_49 h_57) rfl rfl m_ml_X10_58 m_im_X5_changePart m_se_X5_X5_changePart_X5_changePart m_in_X5 m_co_X5_changePart (by decide +kernel) ⟨Nat.le_of_ble_eq_true rfl, Nat.le_of_ble_eq_true rfl⟩ ⟨by first | exact Nat.le_of_ble_eq_true rfl | (show _ ≤ 2; omega), by first | exact Nat.le_of_ble_eq_true rfl | (show _ ≤ 160; omega)⟩ rfl hl.1 rfl (Nat.le_of_ble_eq_true rfl) dX10_give_87 hK hI (fun r G1 H1 L1 hp hI => ?_)
                    obtain ⟨rfl, hGe⟩ := hp
                    rw [hGe] at hI
                    have hy : (.inr (5, _) : va_E) = _ := hvf_u (aa := aa) 11 (A 0 (ix f)) (by rw [← fit_so h_49]; exact h_57) (hS.so hn t_56 h_49) (by decide)
                    rw [adr_s h_35] at hy
                    have hS := SW.p10 hS 11 (by decide) (ix (A 0 (ix s))) (t_56.pos hn h_49) (t_56.ixle hn).1 (w := (A 0 (ix f))) t_48 (by exact h_59) hy
                    refine W.eq (g2 := F0 mI 90 ls []) rfl ?_
                    refine lv_aload hx hb dX10_give_90 (lv_at hl 1 rfl) ?_
                    refine g_callS (own := RX10) (index := 42) (n := 1) hx hb hml hown hts (c_X10_oneIfThing_r l E b0 _ (aa (4 * ix (A 0 (ix f))))) m_ml_X10_42 m_st_X10_oneIfThing m_in_X10 m_co_X10_oneIfThing (by decide +kernel) ⟨Nat.le_of_ble_eq_true rfl, Nat.le_of_ble_eq_true rfl⟩ ⟨by first | exact Nat.le_of_ble_eq_true rfl | (show _ ≤ 2; omega), by first | exact Nat.le_of_ble_eq_true rfl | (show _ ≤ 160; omega)⟩ rfl hl.1 rfl (Nat.le_of_ble_eq_true rfl) dX10_give_92 hK hI (fun r G1 H1 L1 hp hI => ?_)
                    obtain ⟨v, rfl, ev, hGe⟩ := hp
                    subst ev
                    rw [hGe] at hI
                    refine W.eq (g2 := F0 mI 95 ls [.int 1]) rfl ?_
                    have e9 : sp_give A s 1 f = (1, (u2 A 11 (ix (A 0 (ix s))) (A 0 (ix f)))) := by
                      simp only [sp_give, inb, decide_true, decide_false, Bool.not_false, Bool.not_true, Bool.and_true, Bool.true_and, Bool.false_and, Bool.and_false, Bool.and_self, rfi, rfj, wHv, wRw, wSl, h_1, h_3, c_5, c_6, h_35, h_49, h_57, h_59, eqb_00, eqb_10, eqb_20, eqb_30, eqb_50, eqb_11, eqb_21, reduceIte, Bool.false_eq_true, not_true_eq_false, not_false_eq_true, ite_self]
                    exact g_iret hx hb hr hlocks hI ⟨_, rfl, by rw [e9], aa, nn, by omega, by rw [e9]; exact hS⟩ dX10_give_95 (by omega) (by omega)
                  · have _ := 0
                    refine g_callS (own := RX10) (index := 50) (n := 2) hx hb hml hown hts (c_X10_isNoPart_1f l E b0 _ (aa (4 * ix (A 0 (ix f)))) _ _ (hS.at hn t_48 h_35) (cix_in _) (hS.gs hn t_48 h_35 6 (by decide) h_59)) m_ml_X10_50 m_st_X10_isNoPart m_in_X10 m_co_X10_isNoPart (by decide +kernel) ⟨Nat.le_of_ble_eq_true rfl, Nat.le_of_ble_eq_true rfl⟩ ⟨by first | exact Nat.le_of_ble_eq_true rfl | (show _ ≤ 2; omega), by first | exact Nat.le_of_ble_eq_true rfl | (show _ ≤ 160; omega)⟩ rfl hl.1 rfl (Nat.le_of_ble_eq_true rfl) dX10_give_48 hK hI (fun r G1 H1 L1 hp hI => ?_)
                    obtain ⟨v, rfl, ev, hGe⟩ := hp
                    subst ev
                    rw [hGe] at hI
                    refine W.eq (g2 := F0 mI 51 ls [.int 1]) rfl ?_
                    refine lv_if_eq (tgt := 60) hx hb dX10_give_51 (by decide) (fun c_61 => absurd c_61 (by decide)) (fun _ => ?_)
                    refine lv_aload_n hx hb dX10_give_54 rfl (lv_at hl 1 rfl) ?_
                    refine lv_iconst (v := 5) hx hb dX10_give_55 (by decide) ?_
                    refine g_callV (own := RX10) (index := 31) (n := 1) hx hb hml hown hts (c_X10_refuse l E b0 _ _ aa _ nn hS hn 5 (vp_in_iff.mpr (by decide))) hS.2.2.2.1 rfl rfl m_ml_X10_31 m_im_X10_refuse m_se_X10_X10_refuse_X10_refuse m_in_X10 m_co_X10_refuse (by decide +kernel) ⟨Nat.le_of_ble_eq_true rfl, Nat.le_of_ble_eq_true rfl⟩ ⟨by first | exact Nat.le_of_ble_eq_true rfl | (show _ ≤ 2; omega), by first | exact Nat.le_of_ble_eq_true rfl | (show _ ≤ 160; omega)⟩ rfl hl.1 rfl (Nat.le_of_ble_eq_true rfl) dX10_give_56 hK hI (fun r G1 H1 L1 hp hI => ?_)
                    obtain ⟨v, rfl, ev, hS⟩ := hp
                    subst ev
                    refine W.eq (g2 := F0 mI 59 ls [.int (-10 - 5)]) rfl ?_
                    have e9 : sp_give A s 1 f = ((-10 - 5), (rfs A 5)) := by
                      simp only [sp_give, inb, decide_true, decide_false, Bool.not_false, Bool.not_true, Bool.and_true, Bool.true_and, Bool.false_and, Bool.and_false, Bool.and_self, rfi, rfj, wHv, wRw, wSl, h_1, h_3, c_5, c_6, h_35, h_49, h_57, h_59, eqb_00, eqb_10, eqb_20, eqb_30, eqb_50, eqb_11, eqb_21, reduceIte, Bool.false_eq_true, not_true_eq_false, not_false_eq_true, ite_self]
                    exact g_iret hx hb hr hlocks hI ⟨_, rfl, by rw [e9], aa, nn, by omega, by rw [e9]; exact hS⟩ dX10_give_59 (by omega) (by omega)
                · have _ := 0
                  refine g_callS (own := RX10) (index := 46) (n := 1) hx hb hml hown hts (c_X10_isNoHive_f l E b0 _ (aa (4 * ix (A 0 (ix s)))) _ _ (hS.at hn t_56 h_49) (cix_in _) (hS.gs hn t_56 h_49 5 (by decide) h_57)) m_ml_X10_46 m_st_X10_isNoHive m_in_X10 m_co_X10_isNoHive (by decide +kernel) ⟨Nat.le_of_ble_eq_true rfl, Nat.le_of_ble_eq_true rfl⟩ ⟨by first | exact Nat.le_of_ble_eq_true rfl | (show _ ≤ 2; omega), by first | exact Nat.le_of_ble_eq_true rfl | (show _ ≤ 160; omega)⟩ rfl hl.1 rfl (Nat.le_of_ble_eq_true rfl) dX10_give_39 hK hI (fun r G1 H1 L1 hp hI => ?_)
                  obtain ⟨v, rfl, ev, hGe⟩ := hp
                  subst ev
                  rw [hGe] at hI
                  refine W.eq (g2 := F0 mI 42 ls [.int 1]) rfl ?_
                  refine lv_if_ne (tgt := 54) hx hb dX10_give_42 (by decide) (fun _ => ?_) (fun c_62 => absurd c_62 (by decide))
                  refine lv_aload_n hx hb dX10_give_54 rfl (lv_at hl 1 rfl) ?_
                  refine lv_iconst (v := 5) hx hb dX10_give_55 (by decide) ?_
                  refine g_callV (own := RX10) (index := 31) (n := 1) hx hb hml hown hts (c_X10_refuse l E b0 _ _ aa _ nn hS hn 5 (vp_in_iff.mpr (by decide))) hS.2.2.2.1 rfl rfl m_ml_X10_31 m_im_X10_refuse m_se_X10_X10_refuse_X10_refuse m_in_X10 m_co_X10_refuse (by decide +kernel) ⟨Nat.le_of_ble_eq_true rfl, Nat.le_of_ble_eq_true rfl⟩ ⟨by first | exact Nat.le_of_ble_eq_true rfl | (show _ ≤ 2; omega), by first | exact Nat.le_of_ble_eq_true rfl | (show _ ≤ 160; omega)⟩ rfl hl.1 rfl (Nat.le_of_ble_eq_true rfl) dX10_give_56 hK hI (fun r G1 H1 L1 hp hI => ?_)
                  obtain ⟨v, rfl, ev, hS⟩ := hp
                  subst ev
                  refine W.eq (g2 := F0 mI 59 ls [.int (-10 - 5)]) rfl ?_
                  have e9 : sp_give A s 1 f = ((-10 - 5), (rfs A 5)) := by
                    simp only [sp_give, inb, decide_true, decide_false, Bool.not_false, Bool.not_true, Bool.and_true, Bool.true_and, Bool.false_and, Bool.and_false, Bool.and_self, rfi, rfj, wHv, wRw, wSl, h_1, h_3, c_5, c_6, h_35, h_49, h_57, eqb_00, eqb_10, eqb_20, eqb_30, eqb_50, eqb_11, eqb_21, reduceIte, Bool.false_eq_true, not_true_eq_false, not_false_eq_true, ite_self]
                  exact g_iret hx hb hr hlocks hI ⟨_, rfl, by rw [e9], aa, nn, by omega, by rw [e9]; exact hS⟩ dX10_give_59 (by omega) (by omega)
          · have _ := 0
            refine lv_aload_n hx hb dX10_give_25 rfl (lv_at hl 0 rfl) ?_
            refine g_get (index := 11) (ci := 8) hx hb hts inlX10 hown hK hI hS.2.2.2.1 rfl 0 (by decide) m_fl_X10_11 (fun _ h9 => h9) rfl dX10_give_26 ?_
            refine lv_iload_n hx hb dX10_give_29 rfl (lv_at hl 3 rfl) ?_
            rcases btf (eqb (A 0 (ix f)) 0) with h_63 | h_63
            · have z_64 := fun lo hi => fit_0 (A := A) lo hi h_63
              have t_65 : tv nn (A 0 (ix f)) := (hS.tsh h_3)
              refine g_aald hx hb hK hI 1 hS.2.2.2.2.1 rfl (sh_in h_3) dX10_give_30 ?_
              refine W.eq (g2 := F0 mI 31 ls [.null]) (by rw [show shf aa A (Int32.toNatClampNeg f) = adr aa (A 0 (ix f)) from shf_at h_3, adr_n h_63]; rfl) ?_
              refine lv_astoreN (lv' := [(4, .null), (0, .ref (aa 0)), (1, .int s), (2, .int 2), (3, .int f)]) hx hb dX10_give_31 hl (by decide) rfl (fun ls hl => ?_)
              refine lv_aload_n hx hb dX10_give_33 rfl (lv_at hl 1 rfl) ?_
              refine g_get (index := 11) (ci := 8) hx hb hts inlX10 hown hK hI hS.2.2.2.1 rfl 0 (by decide) m_fl_X10_11 (fun _ h9 => h9) rfl dX10_give_34 ?_
              refine lv_iload_n hx hb dX10_give_37 rfl (lv_at hl 2 rfl) ?_
              rcases btf (eqb (A 0 (ix s)) 0) with h_66 | h_66
              · have z_67 := fun lo hi => fit_0 (A := A) lo hi h_66
                have t_68 : tv nn (A 0 (ix s)) := (hS.tsh h_1)
                refine g_aald hx hb hK hI 1 hS.2.2.2.2.1 rfl (sh_in h_1) dX10_give_38 ?_
                refine W.eq (g2 := F0 mI 39 ls [.null]) (by rw [show shf aa A (Int32.toNatClampNeg s) = adr aa (A 0 (ix s)) from shf_at h_1, adr_n h_66]; rfl) ?_
                refine g_callS (own := RX10) (index := 46) (n := 1) hx hb hml hown hts (c_X10_isNoHive_n l E b0 _) m_ml_X10_46 m_st_X10_isNoHive m_in_X10 m_co_X10_isNoHive (by decide +kernel) ⟨Nat.le_of_ble_eq_true rfl, Nat.le_of_ble_eq_true rfl⟩ ⟨by first | exact Nat.le_of_ble_eq_true rfl | (show _ ≤ 2; omega), by first | exact Nat.le_of_ble_eq_true rfl | (show _ ≤ 160; omega)⟩ rfl hl.1 rfl (Nat.le_of_ble_eq_true rfl) dX10_give_39 hK hI (fun r G1 H1 L1 hp hI => ?_)
                obtain ⟨v, rfl, ev, hGe⟩ := hp
                subst ev
                rw [hGe] at hI
                refine W.eq (g2 := F0 mI 42 ls [.int 0]) rfl ?_
                refine lv_if_ne (tgt := 54) hx hb dX10_give_42 (by decide) (fun c_69 => absurd c_69 (by decide)) (fun _ => ?_)
                refine lv_aloadN hx hb dX10_give_45 (lv_at hl 0 rfl) ?_
                refine lv_iload_n hx hb dX10_give_47 rfl (lv_at hl 3 rfl) ?_
                refine g_callS (own := RX10) (index := 50) (n := 2) hx hb hml hown hts (c_X10_isNoPart_n l E b0 _ 2) m_ml_X10_50 m_st_X10_isNoPart m_in_X10 m_co_X10_isNoPart (by decide +kernel) ⟨Nat.le_of_ble_eq_true rfl, Nat.le_of_ble_eq_true rfl⟩ ⟨by first | exact Nat.le_of_ble_eq_true rfl | (show _ ≤ 2; omega), by first | exact Nat.le_of_ble_eq_true rfl | (show _ ≤ 160; omega)⟩ rfl hl.1 rfl (Nat.le_of_ble_eq_true rfl) dX10_give_48 hK hI (fun r G1 H1 L1 hp hI => ?_)
                obtain ⟨v, rfl, ev, hGe⟩ := hp
                subst ev
                rw [hGe] at hI
                refine W.eq (g2 := F0 mI 51 ls [.int 0]) rfl ?_
                refine lv_if_eq (tgt := 60) hx hb dX10_give_51 (by decide) (fun _ => ?_) (fun c_70 => absurd c_70 (by decide))
                refine lv_aload_n hx hb dX10_give_60 rfl (lv_at hl 1 rfl) ?_
                refine g_get (index := 11) (ci := 8) hx hb hts inlX10 hown hK hI hS.2.2.2.1 rfl 0 (by decide) m_fl_X10_11 (fun _ h9 => h9) rfl dX10_give_61 ?_
                refine lv_iload_n hx hb dX10_give_64 rfl (lv_at hl 2 rfl) ?_
                refine g_aald hx hb hK hI 1 hS.2.2.2.2.1 rfl (sh_in h_1) dX10_give_65 ?_
                refine W.eq (g2 := F0 mI 66 ls [.null]) (by rw [show shf aa A (Int32.toNatClampNeg s) = adr aa (A 0 (ix s)) from shf_at h_1, adr_n h_66]; rfl) ?_
                refine g_callS (own := RX10) (index := 54) (n := 1) hx hb hml hown hts (c_X10_asHive_n l E b0 _) m_ml_X10_54 m_st_X10_asHive m_in_X10 m_co_X10_asHive (by decide +kernel) ⟨Nat.le_of_ble_eq_true rfl, Nat.le_of_ble_eq_true rfl⟩ ⟨by first | exact Nat.le_of_ble_eq_true rfl | (show _ ≤ 2; omega), by first | exact Nat.le_of_ble_eq_true rfl | (show _ ≤ 160; omega)⟩ rfl hl.1 rfl (Nat.le_of_ble_eq_true rfl) dX10_give_66 hK hI (fun r G1 H1 L1 hp hI => ?_)
                obtain ⟨v, rfl, ev, hGe⟩ := hp
                subst ev
                rw [hGe] at hI
                refine W.eq (g2 := F0 mI 69 ls [.null]) rfl ?_
                refine lv_astoreN (lv' := [(5, .null), (4, .null), (0, .ref (aa 0)), (1, .int s), (2, .int 2), (3, .int f)]) hx hb dX10_give_69 hl (by decide) rfl (fun ls hl => ?_)
                refine lv_aloadN hx hb dX10_give_71 (lv_at hl 0 rfl) ?_
                refine lv_ifnonnullN hx hb dX10_give_73 ?_
                refine lv_aload_n hx hb dX10_give_76 rfl (lv_at hl 2 rfl) ?_
                refine lv_iconst (v := 1) hx hb dX10_give_77 (by decide) ?_
                refine g_callV (own := RX10) (index := 31) (n := 1) hx hb hml hown hts (c_X10_refuse l E b0 _ _ aa _ nn hS hn 1 (vp_in_iff.mpr (by decide))) hS.2.2.2.1 rfl rfl m_ml_X10_31 m_im_X10_refuse m_se_X10_X10_refuse_X10_refuse m_in_X10 m_co_X10_refuse (by decide +kernel) ⟨Nat.le_of_ble_eq_true rfl, Nat.le_of_ble_eq_true rfl⟩ ⟨by first | exact Nat.le_of_ble_eq_true rfl | (show _ ≤ 2; omega), by first | exact Nat.le_of_ble_eq_true rfl | (show _ ≤ 160; omega)⟩ rfl hl.1 rfl (Nat.le_of_ble_eq_true rfl) dX10_give_78 hK hI (fun r G1 H1 L1 hp hI => ?_)
                obtain ⟨v, rfl, ev, hS⟩ := hp
                subst ev
                refine W.eq (g2 := F0 mI 81 ls [.int (-10 - 1)]) rfl ?_
                have e9 : sp_give A s 2 f = ((-10 - 1), (rfs A 1)) := by
                  simp only [sp_give, inb, decide_true, decide_false, Bool.not_false, Bool.not_true, Bool.and_true, Bool.true_and, Bool.false_and, Bool.and_false, Bool.and_self, rfi, rfj, wHv, wRw, wSl, h_1, h_3, c_5, c_6, h_63, z_64, h_66, z_67, eqb_00, eqb_10, eqb_20, eqb_30, eqb_50, eqb_11, eqb_21, reduceIte, Bool.false_eq_true, not_true_eq_false, not_false_eq_true, ite_self]
                exact g_iret hx hb hr hlocks hI ⟨_, rfl, by rw [e9], aa, nn, by omega, by rw [e9]; exact hS⟩ dX10_give_81 (by omega) (by omega)
              · have _ := 0
                have t_71 : tv nn (A 0 (ix s)) := (hS.tsh h_1)
                refine g_aald hx hb hK hI 1 hS.2.2.2.2.1 rfl (sh_in h_1) dX10_give_38 ?_
                refine W.eq (g2 := F0 mI 39 ls [.ref (aa (4 * ix (A 0 (ix s))))]) (by rw [show shf aa A (Int32.toNatClampNeg s) = adr aa (A 0 (ix s)) from shf_at h_1, adr_s h_66]; rfl) ?_
                rcases btf (fit A (A 0 (ix s)) 6 7) with h_72 | h_72
                · have _ := 0
                  refine g_callS (own := RX10) (index := 46) (n := 1) hx hb hml hown hts (c_X10_isNoHive_y l E b0 _ (aa (4 * ix (A 0 (ix s)))) _ _ (hS.at hn t_71 h_66) (cix_in _) (hS.gs hn t_71 h_66 5 (by decide) h_72)) m_ml_X10_46 m_st_X10_isNoHive m_in_X10 m_co_X10_isNoHive (by decide +kernel) ⟨Nat.le_of_ble_eq_true rfl, Nat.le_of_ble_eq_true rfl⟩ ⟨by first | exact Nat.le_of_ble_eq_true rfl | (show _ ≤ 2; omega), by first | exact Nat.le_of_ble_eq_true rfl | (show _ ≤ 160; omega)⟩ rfl hl.1 rfl (Nat.le_of_ble_eq_true rfl) dX10_give_39 hK hI (fun r G1 H1 L1 hp hI => ?_)
                  obtain ⟨v, rfl, ev, hGe⟩ := hp
                  subst ev
                  rw [hGe] at hI
                  refine W.eq (g2 := F0 mI 42 ls [.int 0]) rfl ?_
                  refine lv_if_ne (tgt := 54) hx hb dX10_give_42 (by decide) (fun c_73 => absurd c_73 (by decide)) (fun _ => ?_)
                  refine lv_aloadN hx hb dX10_give_45 (lv_at hl 0 rfl) ?_
                  refine lv_iload_n hx hb dX10_give_47 rfl (lv_at hl 3 rfl) ?_
                  refine g_callS (own := RX10) (index := 50) (n := 2) hx hb hml hown hts (c_X10_isNoPart_n l E b0 _ 2) m_ml_X10_50 m_st_X10_isNoPart m_in_X10 m_co_X10_isNoPart (by decide +kernel) ⟨Nat.le_of_ble_eq_true rfl, Nat.le_of_ble_eq_true rfl⟩ ⟨by first | exact Nat.le_of_ble_eq_true rfl | (show _ ≤ 2; omega), by first | exact Nat.le_of_ble_eq_true rfl | (show _ ≤ 160; omega)⟩ rfl hl.1 rfl (Nat.le_of_ble_eq_true rfl) dX10_give_48 hK hI (fun r G1 H1 L1 hp hI => ?_)
                  obtain ⟨v, rfl, ev, hGe⟩ := hp
                  subst ev
                  rw [hGe] at hI
                  refine W.eq (g2 := F0 mI 51 ls [.int 0]) rfl ?_
                  refine lv_if_eq (tgt := 60) hx hb dX10_give_51 (by decide) (fun _ => ?_) (fun c_74 => absurd c_74 (by decide))
                  refine lv_aload_n hx hb dX10_give_60 rfl (lv_at hl 1 rfl) ?_
                  refine g_get (index := 11) (ci := 8) hx hb hts inlX10 hown hK hI hS.2.2.2.1 rfl 0 (by decide) m_fl_X10_11 (fun _ h9 => h9) rfl dX10_give_61 ?_
                  refine lv_iload_n hx hb dX10_give_64 rfl (lv_at hl 2 rfl) ?_
                  refine g_aald hx hb hK hI 1 hS.2.2.2.2.1 rfl (sh_in h_1) dX10_give_65 ?_
                  refine W.eq (g2 := F0 mI 66 ls [.ref (aa (4 * ix (A 0 (ix s))))]) (by rw [show shf aa A (Int32.toNatClampNeg s) = adr aa (A 0 (ix s)) from shf_at h_1, adr_s h_66]; rfl) ?_
                  refine g_callS (own := RX10) (index := 54) (n := 1) hx hb hml hown hts (c_X10_asHive_y l E b0 _ (aa (4 * ix (A 0 (ix s)))) _ _ (hS.at hn t_71 h_66) (cix_in _) (hS.gs hn t_71 h_66 5 (by decide) h_72)) m_ml_X10_54 m_st_X10_asHive m_in_X10 m_co_X10_asHive (by decide +kernel) ⟨Nat.le_of_ble_eq_true rfl, Nat.le_of_ble_eq_true rfl⟩ ⟨by first | exact Nat.le_of_ble_eq_true rfl | (show _ ≤ 2; omega), by first | exact Nat.le_of_ble_eq_true rfl | (show _ ≤ 160; omega)⟩ rfl hl.1 rfl (Nat.le_of_ble_eq_true rfl) dX10_give_66 hK hI (fun r G1 H1 L1 hp hI => ?_)
                  obtain ⟨v, rfl, ev, hGe⟩ := hp
                  subst ev
                  rw [hGe] at hI
                  refine W.eq (g2 := F0 mI 69 ls [.ref (aa (4 * ix (A 0 (ix s))))]) rfl ?_
                  refine lv_astore (lv' := [(5, .ref (aa (4 * ix (A 0 (ix s))))), (4, .null), (0, .ref (aa 0)), (1, .int s), (2, .int 2), (3, .int f)]) hx hb dX10_give_69 hl (by decide) rfl (fun ls hl => ?_)
                  refine lv_aload hx hb dX10_give_71 (lv_at hl 0 rfl) ?_
                  refine lv_ifnonnull (tgt := 82) hx hb dX10_give_73 (by decide) ?_
                  refine lv_aload hx hb dX10_give_82 (lv_at hl 0 rfl) ?_
                  refine lv_iload_n hx hb dX10_give_84 rfl (lv_at hl 4 rfl) ?_
                  refine lv_aloadN hx hb dX10_give_85 (lv_at hl 1 rfl) ?_
                  refine g_callV (own := RX10) (index := 58) (n := 2) hx hb hml hown hts (c_X5_changePart_2n l E b0 _ (aa (4 * ix (A 0 (ix s)))) _ _ _ _ _ _ (hS.hv hn t_71 h_66 h_72)) (hS.hv hn t_71 h_66 h_72) rfl rfl m_ml_X10_58 m_im_X5_changePart m_se_X5_X5_changePart_X5_changePart m_in_X5 m_co_X5_changePart (by decide +kernel) ⟨Nat.le_of_ble_eq_true rfl, Nat.le_of_ble_eq_true rfl⟩ ⟨by first | exact Nat.le_of_ble_eq_true rfl | (show _ ≤ 2; omega), by first | exact Nat.le_of_ble_eq_true rfl | (show _ ≤ 160; omega)⟩ rfl hl.1 rfl (Nat.le_of_ble_eq_true rfl) dX10_give_87 hK hI (fun r G1 H1 L1 hp hI => ?_)
                  obtain ⟨rfl, hGe⟩ := hp
                  rw [hGe] at hI
                  have hy : (.inr (5, _) : va_E) = _ := hvf_u (aa := aa) 12 (A 0 (ix f)) (by rw [← fit_so h_66]; exact h_72) (hS.so hn t_71 h_66) (by decide)
                  rw [adr_n h_63] at hy
                  have hS := SW.p10 hS 12 (by decide) (ix (A 0 (ix s))) (t_71.pos hn h_66) (t_71.ixle hn).1 (w := (A 0 (ix f))) t_65 (by exact (fit_0 _ _ h_63)) hy
                  refine W.eq (g2 := F0 mI 90 ls []) rfl ?_
                  refine lv_aloadN hx hb dX10_give_90 (lv_at hl 1 rfl) ?_
                  refine g_callS (own := RX10) (index := 42) (n := 1) hx hb hml hown hts (c_X10_oneIfThing_n l E b0 _) m_ml_X10_42 m_st_X10_oneIfThing m_in_X10 m_co_X10_oneIfThing (by decide +kernel) ⟨Nat.le_of_ble_eq_true rfl, Nat.le_of_ble_eq_true rfl⟩ ⟨by first | exact Nat.le_of_ble_eq_true rfl | (show _ ≤ 2; omega), by first | exact Nat.le_of_ble_eq_true rfl | (show _ ≤ 160; omega)⟩ rfl hl.1 rfl (Nat.le_of_ble_eq_true rfl) dX10_give_92 hK hI (fun r G1 H1 L1 hp hI => ?_)
                  obtain ⟨v, rfl, ev, hGe⟩ := hp
                  subst ev
                  rw [hGe] at hI
                  refine W.eq (g2 := F0 mI 95 ls [.int 0]) rfl ?_
                  have e9 : sp_give A s 2 f = (0, (u2 A 12 (ix (A 0 (ix s))) (A 0 (ix f)))) := by
                    simp only [sp_give, inb, decide_true, decide_false, Bool.not_false, Bool.not_true, Bool.and_true, Bool.true_and, Bool.false_and, Bool.and_false, Bool.and_self, rfi, rfj, wHv, wRw, wSl, h_1, h_3, c_5, c_6, h_63, z_64, h_66, h_72, eqb_00, eqb_10, eqb_20, eqb_30, eqb_50, eqb_11, eqb_21, reduceIte, Bool.false_eq_true, not_true_eq_false, not_false_eq_true, ite_self]
                  exact g_iret hx hb hr hlocks hI ⟨_, rfl, by rw [e9], aa, nn, by omega, by rw [e9]; exact hS⟩ dX10_give_95 (by omega) (by omega)
                · have _ := 0
                  refine g_callS (own := RX10) (index := 46) (n := 1) hx hb hml hown hts (c_X10_isNoHive_f l E b0 _ (aa (4 * ix (A 0 (ix s)))) _ _ (hS.at hn t_71 h_66) (cix_in _) (hS.gs hn t_71 h_66 5 (by decide) h_72)) m_ml_X10_46 m_st_X10_isNoHive m_in_X10 m_co_X10_isNoHive (by decide +kernel) ⟨Nat.le_of_ble_eq_true rfl, Nat.le_of_ble_eq_true rfl⟩ ⟨by first | exact Nat.le_of_ble_eq_true rfl | (show _ ≤ 2; omega), by first | exact Nat.le_of_ble_eq_true rfl | (show _ ≤ 160; omega)⟩ rfl hl.1 rfl (Nat.le_of_ble_eq_true rfl) dX10_give_39 hK hI (fun r G1 H1 L1 hp hI => ?_)
                  obtain ⟨v, rfl, ev, hGe⟩ := hp
                  subst ev
                  rw [hGe] at hI
                  refine W.eq (g2 := F0 mI 42 ls [.int 1]) rfl ?_
                  refine lv_if_ne (tgt := 54) hx hb dX10_give_42 (by decide) (fun _ => ?_) (fun c_75 => absurd c_75 (by decide))
                  refine lv_aload_n hx hb dX10_give_54 rfl (lv_at hl 1 rfl) ?_
                  refine lv_iconst (v := 5) hx hb dX10_give_55 (by decide) ?_
                  refine g_callV (own := RX10) (index := 31) (n := 1) hx hb hml hown hts (c_X10_refuse l E b0 _ _ aa _ nn hS hn 5 (vp_in_iff.mpr (by decide))) hS.2.2.2.1 rfl rfl m_ml_X10_31 m_im_X10_refuse m_se_X10_X10_refuse_X10_refuse m_in_X10 m_co_X10_refuse (by decide +kernel) ⟨Nat.le_of_ble_eq_true rfl, Nat.le_of_ble_eq_true rfl⟩ ⟨by first | exact Nat.le_of_ble_eq_true rfl | (show _ ≤ 2; omega), by first | exact Nat.le_of_ble_eq_true rfl | (show _ ≤ 160; omega)⟩ rfl hl.1 rfl (Nat.le_of_ble_eq_true rfl) dX10_give_56 hK hI (fun r G1 H1 L1 hp hI => ?_)
                  obtain ⟨v, rfl, ev, hS⟩ := hp
                  subst ev
                  refine W.eq (g2 := F0 mI 59 ls [.int (-10 - 5)]) rfl ?_
                  have e9 : sp_give A s 2 f = ((-10 - 5), (rfs A 5)) := by
                    simp only [sp_give, inb, decide_true, decide_false, Bool.not_false, Bool.not_true, Bool.and_true, Bool.true_and, Bool.false_and, Bool.and_false, Bool.and_self, rfi, rfj, wHv, wRw, wSl, h_1, h_3, c_5, c_6, h_63, z_64, h_66, h_72, eqb_00, eqb_10, eqb_20, eqb_30, eqb_50, eqb_11, eqb_21, reduceIte, Bool.false_eq_true, not_true_eq_false, not_false_eq_true, ite_self]
                  exact g_iret hx hb hr hlocks hI ⟨_, rfl, by rw [e9], aa, nn, by omega, by rw [e9]; exact hS⟩ dX10_give_59 (by omega) (by omega)
            · have _ := 0
              have t_76 : tv nn (A 0 (ix f)) := (hS.tsh h_3)
              refine g_aald hx hb hK hI 1 hS.2.2.2.2.1 rfl (sh_in h_3) dX10_give_30 ?_
              refine W.eq (g2 := F0 mI 31 ls [.ref (aa (4 * ix (A 0 (ix f))))]) (by rw [show shf aa A (Int32.toNatClampNeg f) = adr aa (A 0 (ix f)) from shf_at h_3, adr_s h_63]; rfl) ?_
              refine lv_astore (lv' := [(4, .ref (aa (4 * ix (A 0 (ix f))))), (0, .ref (aa 0)), (1, .int s), (2, .int 2), (3, .int f)]) hx hb dX10_give_31 hl (by decide) rfl (fun ls hl => ?_)
              refine lv_aload_n hx hb dX10_give_33 rfl (lv_at hl 1 rfl) ?_
              refine g_get (index := 11) (ci := 8) hx hb hts inlX10 hown hK hI hS.2.2.2.1 rfl 0 (by decide) m_fl_X10_11 (fun _ h9 => h9) rfl dX10_give_34 ?_
              refine lv_iload_n hx hb dX10_give_37 rfl (lv_at hl 2 rfl) ?_
              rcases btf (eqb (A 0 (ix s)) 0) with h_77 | h_77
              · have z_78 := fun lo hi => fit_0 (A := A) lo hi h_77
                have t_79 : tv nn (A 0 (ix s)) := (hS.tsh h_1)
                refine g_aald hx hb hK hI 1 hS.2.2.2.2.1 rfl (sh_in h_1) dX10_give_38 ?_
                refine W.eq (g2 := F0 mI 39 ls [.null]) (by rw [show shf aa A (Int32.toNatClampNeg s) = adr aa (A 0 (ix s)) from shf_at h_1, adr_n h_77]; rfl) ?_
                refine g_callS (own := RX10) (index := 46) (n := 1) hx hb hml hown hts (c_X10_isNoHive_n l E b0 _) m_ml_X10_46 m_st_X10_isNoHive m_in_X10 m_co_X10_isNoHive (by decide +kernel) ⟨Nat.le_of_ble_eq_true rfl, Nat.le_of_ble_eq_true rfl⟩ ⟨by first | exact Nat.le_of_ble_eq_true rfl | (show _ ≤ 2; omega), by first | exact Nat.le_of_ble_eq_true rfl | (show _ ≤ 160; omega)⟩ rfl hl.1 rfl (Nat.le_of_ble_eq_true rfl) dX10_give_39 hK hI (fun r G1 H1 L1 hp hI => ?_)
                obtain ⟨v, rfl, ev, hGe⟩ := hp
                subst ev
                rw [hGe] at hI
                refine W.eq (g2 := F0 mI 42 ls [.int 0]) rfl ?_
                refine lv_if_ne (tgt := 54) hx hb dX10_give_42 (by decide) (fun c_80 => absurd c_80 (by decide)) (fun _ => ?_)
                refine lv_aload hx hb dX10_give_45 (lv_at hl 0 rfl) ?_
                refine lv_iload_n hx hb dX10_give_47 rfl (lv_at hl 3 rfl) ?_
                rcases btf (fit A (A 0 (ix f)) 5 5) with h_81 | h_81
                · have _ := 0
                  refine g_callS (own := RX10) (index := 50) (n := 2) hx hb hml hown hts (c_X10_isNoPart_2y l E b0 _ (aa (4 * ix (A 0 (ix f)))) _ _ (hS.at hn t_76 h_63) (cix_in _) (hS.gs hn t_76 h_63 0 (by decide) h_81)) m_ml_X10_50 m_st_X10_isNoPart m_in_X10 m_co_X10_isNoPart (by decide +kernel) ⟨Nat.le_of_ble_eq_true rfl, Nat.le_of_ble_eq_true rfl⟩ ⟨by first | exact Nat.le_of_ble_eq_true rfl | (show _ ≤ 2; omega), by first | exact Nat.le_of_ble_eq_true rfl | (show _ ≤ 160; omega)⟩ rfl hl.1 rfl (Nat.le_of_ble_eq_true rfl) dX10_give_48 hK hI (fun r G1 H1 L1 hp hI => ?_)
                  obtain ⟨v, rfl, ev, hGe⟩ := hp
                  subst ev
                  rw [hGe] at hI
                  refine W.eq (g2 := F0 mI 51 ls [.int 0]) rfl ?_
                  refine lv_if_eq (tgt := 60) hx hb dX10_give_51 (by decide) (fun _ => ?_) (fun c_82 => absurd c_82 (by decide))
                  refine lv_aload_n hx hb dX10_give_60 rfl (lv_at hl 1 rfl) ?_
                  refine g_get (index := 11) (ci := 8) hx hb hts inlX10 hown hK hI hS.2.2.2.1 rfl 0 (by decide) m_fl_X10_11 (fun _ h9 => h9) rfl dX10_give_61 ?_
                  refine lv_iload_n hx hb dX10_give_64 rfl (lv_at hl 2 rfl) ?_
                  refine g_aald hx hb hK hI 1 hS.2.2.2.2.1 rfl (sh_in h_1) dX10_give_65 ?_
                  refine W.eq (g2 := F0 mI 66 ls [.null]) (by rw [show shf aa A (Int32.toNatClampNeg s) = adr aa (A 0 (ix s)) from shf_at h_1, adr_n h_77]; rfl) ?_
                  refine g_callS (own := RX10) (index := 54) (n := 1) hx hb hml hown hts (c_X10_asHive_n l E b0 _) m_ml_X10_54 m_st_X10_asHive m_in_X10 m_co_X10_asHive (by decide +kernel) ⟨Nat.le_of_ble_eq_true rfl, Nat.le_of_ble_eq_true rfl⟩ ⟨by first | exact Nat.le_of_ble_eq_true rfl | (show _ ≤ 2; omega), by first | exact Nat.le_of_ble_eq_true rfl | (show _ ≤ 160; omega)⟩ rfl hl.1 rfl (Nat.le_of_ble_eq_true rfl) dX10_give_66 hK hI (fun r G1 H1 L1 hp hI => ?_)
                  obtain ⟨v, rfl, ev, hGe⟩ := hp
                  subst ev
                  rw [hGe] at hI
                  refine W.eq (g2 := F0 mI 69 ls [.null]) rfl ?_
                  refine lv_astoreN (lv' := [(5, .null), (4, .ref (aa (4 * ix (A 0 (ix f))))), (0, .ref (aa 0)), (1, .int s), (2, .int 2), (3, .int f)]) hx hb dX10_give_69 hl (by decide) rfl (fun ls hl => ?_)
                  refine lv_aloadN hx hb dX10_give_71 (lv_at hl 0 rfl) ?_
                  refine lv_ifnonnullN hx hb dX10_give_73 ?_
                  refine lv_aload_n hx hb dX10_give_76 rfl (lv_at hl 2 rfl) ?_
                  refine lv_iconst (v := 1) hx hb dX10_give_77 (by decide) ?_
                  refine g_callV (own := RX10) (index := 31) (n := 1) hx hb hml hown hts (c_X10_refuse l E b0 _ _ aa _ nn hS hn 1 (vp_in_iff.mpr (by decide))) hS.2.2.2.1 rfl rfl m_ml_X10_31 m_im_X10_refuse m_se_X10_X10_refuse_X10_refuse m_in_X10 m_co_X10_refuse (by decide +kernel) ⟨Nat.le_of_ble_eq_true rfl, Nat.le_of_ble_eq_true rfl⟩ ⟨by first | exact Nat.le_of_ble_eq_true rfl | (show _ ≤ 2; omega), by first | exact Nat.le_of_ble_eq_true rfl | (show _ ≤ 160; omega)⟩ rfl hl.1 rfl (Nat.le_of_ble_eq_true rfl) dX10_give_78 hK hI (fun r G1 H1 L1 hp hI => ?_)
                  obtain ⟨v, rfl, ev, hS⟩ := hp
                  subst ev
                  refine W.eq (g2 := F0 mI 81 ls [.int (-10 - 1)]) rfl ?_
                  have e9 : sp_give A s 2 f = ((-10 - 1), (rfs A 1)) := by
                    simp only [sp_give, inb, decide_true, decide_false, Bool.not_false, Bool.not_true, Bool.and_true, Bool.true_and, Bool.false_and, Bool.and_false, Bool.and_self, rfi, rfj, wHv, wRw, wSl, h_1, h_3, c_5, c_6, h_63, h_77, z_78, h_81, eqb_00, eqb_10, eqb_20, eqb_30, eqb_50, eqb_11, eqb_21, reduceIte, Bool.false_eq_true, not_true_eq_false, not_false_eq_true, ite_self]
                  exact g_iret hx hb hr hlocks hI ⟨_, rfl, by rw [e9], aa, nn, by omega, by rw [e9]; exact hS⟩ dX10_give_81 (by omega) (by omega)
                · have _ := 0
                  refine g_callS (own := RX10) (index := 50) (n := 2) hx hb hml hown hts (c_X10_isNoPart_2f l E b0 _ (aa (4 * ix (A 0 (ix f)))) _ _ (hS.at hn t_76 h_63) (cix_in _) (hS.gs hn t_76 h_63 0 (by decide) h_81)) m_ml_X10_50 m_st_X10_isNoPart m_in_X10 m_co_X10_isNoPart (by decide +kernel) ⟨Nat.le_of_ble_eq_true rfl, Nat.le_of_ble_eq_true rfl⟩ ⟨by first | exact Nat.le_of_ble_eq_true rfl | (show _ ≤ 2; omega), by first | exact Nat.le_of_ble_eq_true rfl | (show _ ≤ 160; omega)⟩ rfl hl.1 rfl (Nat.le_of_ble_eq_true rfl) dX10_give_48 hK hI (fun r G1 H1 L1 hp hI => ?_)
                  obtain ⟨v, rfl, ev, hGe⟩ := hp
                  subst ev
                  rw [hGe] at hI
                  refine W.eq (g2 := F0 mI 51 ls [.int 1]) rfl ?_
                  refine lv_if_eq (tgt := 60) hx hb dX10_give_51 (by decide) (fun c_83 => absurd c_83 (by decide)) (fun _ => ?_)
                  refine lv_aload_n hx hb dX10_give_54 rfl (lv_at hl 1 rfl) ?_
                  refine lv_iconst (v := 5) hx hb dX10_give_55 (by decide) ?_
                  refine g_callV (own := RX10) (index := 31) (n := 1) hx hb hml hown hts (c_X10_refuse l E b0 _ _ aa _ nn hS hn 5 (vp_in_iff.mpr (by decide))) hS.2.2.2.1 rfl rfl m_ml_X10_31 m_im_X10_refuse m_se_X10_X10_refuse_X10_refuse m_in_X10 m_co_X10_refuse (by decide +kernel) ⟨Nat.le_of_ble_eq_true rfl, Nat.le_of_ble_eq_true rfl⟩ ⟨by first | exact Nat.le_of_ble_eq_true rfl | (show _ ≤ 2; omega), by first | exact Nat.le_of_ble_eq_true rfl | (show _ ≤ 160; omega)⟩ rfl hl.1 rfl (Nat.le_of_ble_eq_true rfl) dX10_give_56 hK hI (fun r G1 H1 L1 hp hI => ?_)
                  obtain ⟨v, rfl, ev, hS⟩ := hp
                  subst ev
                  refine W.eq (g2 := F0 mI 59 ls [.int (-10 - 5)]) rfl ?_
                  have e9 : sp_give A s 2 f = ((-10 - 5), (rfs A 5)) := by
                    simp only [sp_give, inb, decide_true, decide_false, Bool.not_false, Bool.not_true, Bool.and_true, Bool.true_and, Bool.false_and, Bool.and_false, Bool.and_self, rfi, rfj, wHv, wRw, wSl, h_1, h_3, c_5, c_6, h_63, h_77, z_78, h_81, eqb_00, eqb_10, eqb_20, eqb_30, eqb_50, eqb_11, eqb_21, reduceIte, Bool.false_eq_true, not_true_eq_false, not_false_eq_true, ite_self]
                  exact g_iret hx hb hr hlocks hI ⟨_, rfl, by rw [e9], aa, nn, by omega, by rw [e9]; exact hS⟩ dX10_give_59 (by omega) (by omega)
              · have _ := 0
                have t_84 : tv nn (A 0 (ix s)) := (hS.tsh h_1)
                refine g_aald hx hb hK hI 1 hS.2.2.2.2.1 rfl (sh_in h_1) dX10_give_38 ?_
                refine W.eq (g2 := F0 mI 39 ls [.ref (aa (4 * ix (A 0 (ix s))))]) (by rw [show shf aa A (Int32.toNatClampNeg s) = adr aa (A 0 (ix s)) from shf_at h_1, adr_s h_77]; rfl) ?_
                rcases btf (fit A (A 0 (ix s)) 6 7) with h_85 | h_85
                · have _ := 0
                  refine g_callS (own := RX10) (index := 46) (n := 1) hx hb hml hown hts (c_X10_isNoHive_y l E b0 _ (aa (4 * ix (A 0 (ix s)))) _ _ (hS.at hn t_84 h_77) (cix_in _) (hS.gs hn t_84 h_77 5 (by decide) h_85)) m_ml_X10_46 m_st_X10_isNoHive m_in_X10 m_co_X10_isNoHive (by decide +kernel) ⟨Nat.le_of_ble_eq_true rfl, Nat.le_of_ble_eq_true rfl⟩ ⟨by first | exact Nat.le_of_ble_eq_true rfl | (show _ ≤ 2; omega), by first | exact Nat.le_of_ble_eq_true rfl | (show _ ≤ 160; omega)⟩ rfl hl.1 rfl (Nat.le_of_ble_eq_true rfl) dX10_give_39 hK hI (fun r G1 H1 L1 hp hI => ?_)
                  obtain ⟨v, rfl, ev, hGe⟩ := hp
                  subst ev
                  rw [hGe] at hI
                  refine W.eq (g2 := F0 mI 42 ls [.int 0]) rfl ?_
                  refine lv_if_ne (tgt := 54) hx hb dX10_give_42 (by decide) (fun c_86 => absurd c_86 (by decide)) (fun _ => ?_)
                  refine lv_aload hx hb dX10_give_45 (lv_at hl 0 rfl) ?_
                  refine lv_iload_n hx hb dX10_give_47 rfl (lv_at hl 3 rfl) ?_
                  rcases btf (fit A (A 0 (ix f)) 5 5) with h_87 | h_87
                  · have _ := 0
                    refine g_callS (own := RX10) (index := 50) (n := 2) hx hb hml hown hts (c_X10_isNoPart_2y l E b0 _ (aa (4 * ix (A 0 (ix f)))) _ _ (hS.at hn t_76 h_63) (cix_in _) (hS.gs hn t_76 h_63 0 (by decide) h_87)) m_ml_X10_50 m_st_X10_isNoPart m_in_X10 m_co_X10_isNoPart (by decide +kernel) ⟨Nat.le_of_ble_eq_true rfl, Nat.le_of_ble_eq_true rfl⟩ ⟨by first | exact Nat.le_of_ble_eq_true rfl | (show _ ≤ 2; omega), by first | exact Nat.le_of_ble_eq_true rfl | (show _ ≤ 160; omega)⟩ rfl hl.1 rfl (Nat.le_of_ble_eq_true rfl) dX10_give_48 hK hI (fun r G1 H1 L1 hp hI => ?_)
                    obtain ⟨v, rfl, ev, hGe⟩ := hp
                    subst ev
                    rw [hGe] at hI
                    refine W.eq (g2 := F0 mI 51 ls [.int 0]) rfl ?_
                    refine lv_if_eq (tgt := 60) hx hb dX10_give_51 (by decide) (fun _ => ?_) (fun c_88 => absurd c_88 (by decide))
                    refine lv_aload_n hx hb dX10_give_60 rfl (lv_at hl 1 rfl) ?_
                    refine g_get (index := 11) (ci := 8) hx hb hts inlX10 hown hK hI hS.2.2.2.1 rfl 0 (by decide) m_fl_X10_11 (fun _ h9 => h9) rfl dX10_give_61 ?_
                    refine lv_iload_n hx hb dX10_give_64 rfl (lv_at hl 2 rfl) ?_
                    refine g_aald hx hb hK hI 1 hS.2.2.2.2.1 rfl (sh_in h_1) dX10_give_65 ?_
                    refine W.eq (g2 := F0 mI 66 ls [.ref (aa (4 * ix (A 0 (ix s))))]) (by rw [show shf aa A (Int32.toNatClampNeg s) = adr aa (A 0 (ix s)) from shf_at h_1, adr_s h_77]; rfl) ?_
                    refine g_callS (own := RX10) (index := 54) (n := 1) hx hb hml hown hts (c_X10_asHive_y l E b0 _ (aa (4 * ix (A 0 (ix s)))) _ _ (hS.at hn t_84 h_77) (cix_in _) (hS.gs hn t_84 h_77 5 (by decide) h_85)) m_ml_X10_54 m_st_X10_asHive m_in_X10 m_co_X10_asHive (by decide +kernel) ⟨Nat.le_of_ble_eq_true rfl, Nat.le_of_ble_eq_true rfl⟩ ⟨by first | exact Nat.le_of_ble_eq_true rfl | (show _ ≤ 2; omega), by first | exact Nat.le_of_ble_eq_true rfl | (show _ ≤ 160; omega)⟩ rfl hl.1 rfl (Nat.le_of_ble_eq_true rfl) dX10_give_66 hK hI (fun r G1 H1 L1 hp hI => ?_)
                    obtain ⟨v, rfl, ev, hGe⟩ := hp
                    subst ev
                    rw [hGe] at hI
                    refine W.eq (g2 := F0 mI 69 ls [.ref (aa (4 * ix (A 0 (ix s))))]) rfl ?_
                    refine lv_astore (lv' := [(5, .ref (aa (4 * ix (A 0 (ix s))))), (4, .ref (aa (4 * ix (A 0 (ix f))))), (0, .ref (aa 0)), (1, .int s), (2, .int 2), (3, .int f)]) hx hb dX10_give_69 hl (by decide) rfl (fun ls hl => ?_)
                    refine lv_aload hx hb dX10_give_71 (lv_at hl 0 rfl) ?_
                    refine lv_ifnonnull (tgt := 82) hx hb dX10_give_73 (by decide) ?_
                    refine lv_aload hx hb dX10_give_82 (lv_at hl 0 rfl) ?_
                    refine lv_iload_n hx hb dX10_give_84 rfl (lv_at hl 4 rfl) ?_
                    refine lv_aload hx hb dX10_give_85 (lv_at hl 1 rfl) ?_
                    refine g_callV (own := RX10) (index := 58) (n := 2) hx hb hml hown hts (c_X5_changePart_2r l E b0 _ (aa (4 * ix (A 0 (ix f)))) _ _ (hS.at hn t_76 h_63) (cix_in _) (aa (4 * ix (A 0 (ix s)))) _ _ _ _ _ _ (hS.hv hn t_84 h_77 h_85) (hS.gs hn t_76 h_63 0 (by decide) h_87)) (hS.hv hn t_84 h_77 h_85) rfl rfl m_ml_X10_58 m_im_X5_changePart m_se_X5_X5_changePart_X5_changePart m_in_X5 m_co_X5_changePart (by decide +kernel) ⟨Nat.le_of_ble_eq_true rfl, Nat.le_of_ble_eq_true rfl⟩ ⟨by first | exact Nat.le_of_ble_eq_true rfl | (show _ ≤ 2; omega), by first | exact Nat.le_of_ble_eq_true rfl | (show _ ≤ 160; omega)⟩ rfl hl.1 rfl (Nat.le_of_ble_eq_true rfl) dX10_give_87 hK hI (fun r G1 H1 L1 hp hI => ?_)
                    obtain ⟨rfl, hGe⟩ := hp
                    rw [hGe] at hI
                    have hy : (.inr (5, _) : va_E) = _ := hvf_u (aa := aa) 12 (A 0 (ix f)) (by rw [← fit_so h_77]; exact h_85) (hS.so hn t_84 h_77) (by decide)
                    rw [adr_s h_63] at hy
                    have hS := SW.p10 hS 12 (by decide) (ix (A 0 (ix s))) (t_84.pos hn h_77) (t_84.ixle hn).1 (w := (A 0 (ix f))) t_76 (by exact h_87) hy
                    refine W.eq (g2 := F0 mI 90 ls []) rfl ?_
                    refine lv_aload hx hb dX10_give_90 (lv_at hl 1 rfl) ?_
                    refine g_callS (own := RX10) (index := 42) (n := 1) hx hb hml hown hts (c_X10_oneIfThing_r l E b0 _ (aa (4 * ix (A 0 (ix f))))) m_ml_X10_42 m_st_X10_oneIfThing m_in_X10 m_co_X10_oneIfThing (by decide +kernel) ⟨Nat.le_of_ble_eq_true rfl, Nat.le_of_ble_eq_true rfl⟩ ⟨by first | exact Nat.le_of_ble_eq_true rfl | (show _ ≤ 2; omega), by first | exact Nat.le_of_ble_eq_true rfl | (show _ ≤ 160; omega)⟩ rfl hl.1 rfl (Nat.le_of_ble_eq_true rfl) dX10_give_92 hK hI (fun r G1 H1 L1 hp hI => ?_)
                    obtain ⟨v, rfl, ev, hGe⟩ := hp
                    subst ev
                    rw [hGe] at hI
                    refine W.eq (g2 := F0 mI 95 ls [.int 1]) rfl ?_
                    have e9 : sp_give A s 2 f = (1, (u2 A 12 (ix (A 0 (ix s))) (A 0 (ix f)))) := by
                      simp only [sp_give, inb, decide_true, decide_false, Bool.not_false, Bool.not_true, Bool.and_true, Bool.true_and, Bool.false_and, Bool.and_false, Bool.and_self, rfi, rfj, wHv, wRw, wSl, h_1, h_3, c_5, c_6, h_63, h_77, h_85, h_87, eqb_00, eqb_10, eqb_20, eqb_30, eqb_50, eqb_11, eqb_21, reduceIte, Bool.false_eq_true, not_true_eq_false, not_false_eq_true, ite_self]
                    exact g_iret hx hb hr hlocks hI ⟨_, rfl, by rw [e9], aa, nn, by omega, by rw [e9]; exact hS⟩ dX10_give_95 (by omega) (by omega)
                  · have _ := 0
                    refine g_callS (own := RX10) (index := 50) (n := 2) hx hb hml hown hts (c_X10_isNoPart_2f l E b0 _ (aa (4 * ix (A 0 (ix f)))) _ _ (hS.at hn t_76 h_63) (cix_in _) (hS.gs hn t_76 h_63 0 (by decide) h_87)) m_ml_X10_50 m_st_X10_isNoPart m_in_X10 m_co_X10_isNoPart (by decide +kernel) ⟨Nat.le_of_ble_eq_true rfl, Nat.le_of_ble_eq_true rfl⟩ ⟨by first | exact Nat.le_of_ble_eq_true rfl | (show _ ≤ 2; omega), by first | exact Nat.le_of_ble_eq_true rfl | (show _ ≤ 160; omega)⟩ rfl hl.1 rfl (Nat.le_of_ble_eq_true rfl) dX10_give_48 hK hI (fun r G1 H1 L1 hp hI => ?_)
                    obtain ⟨v, rfl, ev, hGe⟩ := hp
                    subst ev
                    rw [hGe] at hI
                    refine W.eq (g2 := F0 mI 51 ls [.int 1]) rfl ?_
                    refine lv_if_eq (tgt := 60) hx hb dX10_give_51 (by decide) (fun c_89 => absurd c_89 (by decide)) (fun _ => ?_)
                    refine lv_aload_n hx hb dX10_give_54 rfl (lv_at hl 1 rfl) ?_
                    refine lv_iconst (v := 5) hx hb dX10_give_55 (by decide) ?_
                    refine g_callV (own := RX10) (index := 31) (n := 1) hx hb hml hown hts (c_X10_refuse l E b0 _ _ aa _ nn hS hn 5 (vp_in_iff.mpr (by decide))) hS.2.2.2.1 rfl rfl m_ml_X10_31 m_im_X10_refuse m_se_X10_X10_refuse_X10_refuse m_in_X10 m_co_X10_refuse (by decide +kernel) ⟨Nat.le_of_ble_eq_true rfl, Nat.le_of_ble_eq_true rfl⟩ ⟨by first | exact Nat.le_of_ble_eq_true rfl | (show _ ≤ 2; omega), by first | exact Nat.le_of_ble_eq_true rfl | (show _ ≤ 160; omega)⟩ rfl hl.1 rfl (Nat.le_of_ble_eq_true rfl) dX10_give_56 hK hI (fun r G1 H1 L1 hp hI => ?_)
                    obtain ⟨v, rfl, ev, hS⟩ := hp
                    subst ev
                    refine W.eq (g2 := F0 mI 59 ls [.int (-10 - 5)]) rfl ?_
                    have e9 : sp_give A s 2 f = ((-10 - 5), (rfs A 5)) := by
                      simp only [sp_give, inb, decide_true, decide_false, Bool.not_false, Bool.not_true, Bool.and_true, Bool.true_and, Bool.false_and, Bool.and_false, Bool.and_self, rfi, rfj, wHv, wRw, wSl, h_1, h_3, c_5, c_6, h_63, h_77, h_85, h_87, eqb_00, eqb_10, eqb_20, eqb_30, eqb_50, eqb_11, eqb_21, reduceIte, Bool.false_eq_true, not_true_eq_false, not_false_eq_true, ite_self]
                    exact g_iret hx hb hr hlocks hI ⟨_, rfl, by rw [e9], aa, nn, by omega, by rw [e9]; exact hS⟩ dX10_give_59 (by omega) (by omega)
                · have _ := 0
                  refine g_callS (own := RX10) (index := 46) (n := 1) hx hb hml hown hts (c_X10_isNoHive_f l E b0 _ (aa (4 * ix (A 0 (ix s)))) _ _ (hS.at hn t_84 h_77) (cix_in _) (hS.gs hn t_84 h_77 5 (by decide) h_85)) m_ml_X10_46 m_st_X10_isNoHive m_in_X10 m_co_X10_isNoHive (by decide +kernel) ⟨Nat.le_of_ble_eq_true rfl, Nat.le_of_ble_eq_true rfl⟩ ⟨by first | exact Nat.le_of_ble_eq_true rfl | (show _ ≤ 2; omega), by first | exact Nat.le_of_ble_eq_true rfl | (show _ ≤ 160; omega)⟩ rfl hl.1 rfl (Nat.le_of_ble_eq_true rfl) dX10_give_39 hK hI (fun r G1 H1 L1 hp hI => ?_)
                  obtain ⟨v, rfl, ev, hGe⟩ := hp
                  subst ev
                  rw [hGe] at hI
                  refine W.eq (g2 := F0 mI 42 ls [.int 1]) rfl ?_
                  refine lv_if_ne (tgt := 54) hx hb dX10_give_42 (by decide) (fun _ => ?_) (fun c_90 => absurd c_90 (by decide))
                  refine lv_aload_n hx hb dX10_give_54 rfl (lv_at hl 1 rfl) ?_
                  refine lv_iconst (v := 5) hx hb dX10_give_55 (by decide) ?_
                  refine g_callV (own := RX10) (index := 31) (n := 1) hx hb hml hown hts (c_X10_refuse l E b0 _ _ aa _ nn hS hn 5 (vp_in_iff.mpr (by decide))) hS.2.2.2.1 rfl rfl m_ml_X10_31 m_im_X10_refuse m_se_X10_X10_refuse_X10_refuse m_in_X10 m_co_X10_refuse (by decide +kernel) ⟨Nat.le_of_ble_eq_true rfl, Nat.le_of_ble_eq_true rfl⟩ ⟨by first | exact Nat.le_of_ble_eq_true rfl | (show _ ≤ 2; omega), by first | exact Nat.le_of_ble_eq_true rfl | (show _ ≤ 160; omega)⟩ rfl hl.1 rfl (Nat.le_of_ble_eq_true rfl) dX10_give_56 hK hI (fun r G1 H1 L1 hp hI => ?_)
                  obtain ⟨v, rfl, ev, hS⟩ := hp
                  subst ev
                  refine W.eq (g2 := F0 mI 59 ls [.int (-10 - 5)]) rfl ?_
                  have e9 : sp_give A s 2 f = ((-10 - 5), (rfs A 5)) := by
                    simp only [sp_give, inb, decide_true, decide_false, Bool.not_false, Bool.not_true, Bool.and_true, Bool.true_and, Bool.false_and, Bool.and_false, Bool.and_self, rfi, rfj, wHv, wRw, wSl, h_1, h_3, c_5, c_6, h_63, h_77, h_85, eqb_00, eqb_10, eqb_20, eqb_30, eqb_50, eqb_11, eqb_21, reduceIte, Bool.false_eq_true, not_true_eq_false, not_false_eq_true, ite_self]
                  exact g_iret hx hb hr hlocks hI ⟨_, rfl, by rw [e9], aa, nn, by omega, by rw [e9]; exact hS⟩ dX10_give_59 (by omega) (by omega)
        · have c_6 := Int32.not_le.mp c_6
          refine lv_iconst (v := -1) hx hb dX10_give_23 (by decide) ?_
          have e9 : sp_give A s w f = ((-1), A) := by
            simp only [sp_give, inb, decide_true, decide_false, Bool.not_false, Bool.not_true, Bool.and_true, Bool.true_and, Bool.false_and, Bool.and_false, Bool.and_self, rfi, rfj, wHv, wRw, wSl, h_1, h_3, c_5, c_6, eqb_00, eqb_10, eqb_20, eqb_30, eqb_50, eqb_11, eqb_21, reduceIte, Bool.false_eq_true, not_true_eq_false, not_false_eq_true, ite_self]
          exact g_iret hx hb hr hlocks hI ⟨_, rfl, by rw [e9], aa, nn, by omega, by rw [e9]; exact hS⟩ dX10_give_24 (by omega) (by omega)
    · rw [hGe] at hI
      refine W.eq (g2 := F0 mI 11 ls [.int 0]) rfl ?_
      refine lv_if_eq (tgt := 23) hx hb dX10_give_11 (by decide) (fun _ => ?_) (fun c_91 => absurd c_91 (by decide))
      refine lv_iconst (v := -1) hx hb dX10_give_23 (by decide) ?_
      have e9 : sp_give A s w f = ((-1), A) := by
        simp only [sp_give, inb, decide_true, decide_false, Bool.not_false, Bool.not_true, Bool.and_true, Bool.true_and, Bool.false_and, Bool.and_false, Bool.and_self, rfi, rfj, wHv, wRw, wSl, h_1, h_3, eqb_00, eqb_10, eqb_20, eqb_30, eqb_50, eqb_11, eqb_21, reduceIte, Bool.false_eq_true, not_true_eq_false, not_false_eq_true, ite_self]
      exact g_iret hx hb hr hlocks hI ⟨_, rfl, by rw [e9], aa, nn, by omega, by rw [e9]; exact hS⟩ dX10_give_24 (by omega) (by omega)
  · rw [hGe] at hI
    refine W.eq (g2 := F0 mI 4 ls [.int 0]) rfl ?_
    refine lv_if_eq (tgt := 23) hx hb dX10_give_4 (by decide) (fun _ => ?_) (fun c_92 => absurd c_92 (by decide))
    refine lv_iconst (v := -1) hx hb dX10_give_23 (by decide) ?_
    have e9 : sp_give A s w f = ((-1), A) := by
      simp only [sp_give, inb, decide_true, decide_false, Bool.not_false, Bool.not_true, Bool.and_true, Bool.true_and, Bool.false_and, Bool.and_false, Bool.and_self, rfi, rfj, wHv, wRw, wSl, h_1, eqb_00, eqb_10, eqb_20, eqb_30, eqb_50, eqb_11, eqb_21, reduceIte, Bool.false_eq_true, not_true_eq_false, not_false_eq_true, ite_self]
    exact g_iret hx hb hr hlocks hI ⟨_, rfl, by rw [e9], aa, nn, by omega, by rw [e9]; exact hS⟩ dX10_give_24 (by omega) (by omega)
def lt6 (A : gA) (k t : Nat) : Int64 × gA := if A k t < 0 then rfj A 1 else ((A k t).toInt64, A)
set_option maxHeartbeats 4000000 in
set_option maxRecDepth 100000 in
theorem c_X10_lengthTold_6 (l : Launch) (E : gE) (b0 : Nat) (G : gG) (x : Nat) (aa : Nat → Nat) (A : gA) (nn : Nat) (hS : SW E x aa A nn G) (hn : nn < 600) (w : Int32) (hw : tv nn w) (h0 : eqb w 0 = false) (hf : fit A w 6 7 = true) : gM l yX10_lengthTold cX10_lengthTold 3 (some .long) 2 0 0 E b0 G [.ref x, .ref (aa (4 * ix w)), .int 6] (pL (fun v9 G1 => v9 = (lt6 A 5 (ix w)).1 ∧ SW E x aa (lt6 A 5 (ix w)).2 nn G1)) := by
  obtain rfl : aa 0 = x := hS.2.2.1
  refine gM.of (by decide +kernel) (Nat.le_of_ble_eq_true rfl) ?_
  intro pP eP sP mI bP meth cP ls hx hb hr hml hown hlocks hnm hts hK hI hl
  have hl : lv_has ls 3 [(0, .ref (aa 0)), (1, .ref (aa (4 * ix w))), (2, .int 6)] := hl
  have hown : sP.vm.findClass RX10 = some mI.cls := hown
  refine lv_iload_n hx hb dX10_lengthTold_0 rfl (lv_at hl 2 rfl) ?_
  refine lv_bipush (v := 6) hx hb dX10_lengthTold_1 (by decide) ?_
  refine lv_icmp_ne (tgt := 28) hx hb dX10_lengthTold_3 (by decide) (fun c_1 => absurd c_1 (by decide)) (fun _ => ?_)
  refine lv_aload_n hx hb dX10_lengthTold_6 rfl (lv_at hl 1 rfl) ?_
  rcases Classical.em ((A 5 (ix w)) < 0) with h_2 | h_2
  · have _ := 0
    refine g_get (index := 62) (ci := 5) hx hb hts inlX5 hown hK hI (hS.hv hn hw h0 hf) rfl 1 (by decide) m_fl_X10_62 (fun _ h9 => h9) rfl dX10_lengthTold_7 ?_
    refine W.eq (g2 := F0 mI 10 ls [.null]) (by rw [rwo_n h_2]; rfl) ?_
    refine lv_ifnonnullN hx hb dX10_lengthTold_10 ?_
    refine lv_aload_n hx hb dX10_lengthTold_13 rfl (lv_at hl 0 rfl) ?_
    refine lv_iconst (v := 1) hx hb dX10_lengthTold_14 (by decide) ?_
    refine g_callV (own := RX10) (index := 96) (n := 1) hx hb hml hown hts (c_X10_refuseLong l E b0 _ _ aa _ nn hS hn 1 (vp_in_iff.mpr (by decide))) hS.2.2.2.1 rfl rfl m_ml_X10_96 m_im_X10_refuseLong m_se_X10_X10_refuseLong_X10_refuseLong m_in_X10 m_co_X10_refuseLong (by decide +kernel) ⟨Nat.le_of_ble_eq_true rfl, Nat.le_of_ble_eq_true rfl⟩ ⟨by first | exact Nat.le_of_ble_eq_true rfl | (show _ ≤ 0; omega), by first | exact Nat.le_of_ble_eq_true rfl | (show _ ≤ 0; omega)⟩ rfl hl.1 rfl (Nat.le_of_ble_eq_true rfl) dX10_lengthTold_15 hK hI (fun r G1 H1 L1 hp hI => ?_)
    obtain ⟨v, rfl, ev, hS⟩ := hp
    subst ev
    refine W.eq (g2 := F0 mI 18 ls [.long (-9223372036854775708 + ((-10 - 1) : Int32).toInt64)]) rfl ?_
    refine lv_goto (tgt := 27) hx hb dX10_lengthTold_18 (by decide) ?_
    have e9 : lt6 A 5 (ix w) = ((-9223372036854775708 + ((-10 - 1) : Int32).toInt64), (rfs A 1)) := by simp only [lt6, rfj, h_2, reduceIte, Bool.false_eq_true, not_true_eq_false, not_false_eq_true, ite_self]
    exact g_lret hx hb hr hlocks hI ⟨_, rfl, by rw [e9], by rw [e9]; exact hS⟩ dX10_lengthTold_27 (Nat.le_of_ble_eq_true rfl) (Nat.le_of_ble_eq_true rfl)
  · have _ := 0
    refine g_get (index := 62) (ci := 5) hx hb hts inlX5 hown hK hI (hS.hv hn hw h0 hf) rfl 1 (by decide) m_fl_X10_62 (fun _ h9 => h9) rfl dX10_lengthTold_7 ?_
    refine W.eq (g2 := F0 mI 10 ls [.ref (aa (4 * ix w + 1))]) (by rw [rwo_s h_2]; rfl) ?_
    refine lv_ifnonnull (tgt := 21) hx hb dX10_lengthTold_10 (by decide) ?_
    refine lv_aload_n hx hb dX10_lengthTold_21 rfl (lv_at hl 1 rfl) ?_
    refine g_get (index := 62) (ci := 5) hx hb hts inlX5 hown hK hI (hS.hv hn hw h0 hf) rfl 1 (by decide) m_fl_X10_62 (fun _ h9 => h9) rfl dX10_lengthTold_22 ?_
    refine W.eq (g2 := F0 mI 25 ls [.ref (aa (4 * ix w + 1))]) (by rw [rwo_s h_2]; rfl) ?_
    refine g_alen hx hb hK hI 2 (hS.rw' hn hw h0 h_2) rfl (nIix h_2) dX10_lengthTold_25 ?_
    refine lv_i2l hx hb dX10_lengthTold_26 rfl ?_
    have e9 : lt6 A 5 (ix w) = ((((A 5 (ix w)) : Int32).toInt64), A) := by simp only [lt6, rfj, h_2, reduceIte, Bool.false_eq_true, not_true_eq_false, not_false_eq_true, ite_self]
    exact g_lret hx hb hr hlocks hI ⟨_, rfl, by rw [e9], by rw [e9]; exact hS⟩ dX10_lengthTold_27 (Nat.le_of_ble_eq_true rfl) (Nat.le_of_ble_eq_true rfl)
set_option maxHeartbeats 4000000 in
set_option maxRecDepth 100000 in
theorem c_X10_lengthTold_7 (l : Launch) (E : gE) (b0 : Nat) (G : gG) (x : Nat) (aa : Nat → Nat) (A : gA) (nn : Nat) (hS : SW E x aa A nn G) (hn : nn < 600) (w : Int32) (hw : tv nn w) (h0 : eqb w 0 = false) (hf : fit A w 6 7 = true) : gM l yX10_lengthTold cX10_lengthTold 3 (some .long) 2 0 0 E b0 G [.ref x, .ref (aa (4 * ix w)), .int 7] (pL (fun v9 G1 => v9 = (lt6 A 7 (ix w)).1 ∧ SW E x aa (lt6 A 7 (ix w)).2 nn G1)) := by
  obtain rfl : aa 0 = x := hS.2.2.1
  refine gM.of (by decide +kernel) (Nat.le_of_ble_eq_true rfl) ?_
  intro pP eP sP mI bP meth cP ls hx hb hr hml hown hlocks hnm hts hK hI hl
  have hl : lv_has ls 3 [(0, .ref (aa 0)), (1, .ref (aa (4 * ix w))), (2, .int 7)] := hl
  have hown : sP.vm.findClass RX10 = some mI.cls := hown
  refine lv_iload_n hx hb dX10_lengthTold_0 rfl (lv_at hl 2 rfl) ?_
  refine lv_bipush (v := 6) hx hb dX10_lengthTold_1 (by decide) ?_
  refine lv_icmp_ne (tgt := 28) hx hb dX10_lengthTold_3 (by decide) (fun _ => ?_) (fun c_1 => absurd c_1 (by decide))
  refine lv_aload_n hx hb dX10_lengthTold_28 rfl (lv_at hl 1 rfl) ?_
  rcases Classical.em ((A 7 (ix w)) < 0) with h_2 | h_2
  · have _ := 0
    refine g_get (index := 74) (ci := 5) hx hb hts inlX5 hown hK hI (hS.hv hn hw h0 hf) rfl 2 (by decide) m_fl_X10_74 (fun _ h9 => h9) rfl dX10_lengthTold_29 ?_
    refine W.eq (g2 := F0 mI 32 ls [.null]) (by rw [cbo_n h_2]; rfl) ?_
    refine lv_ifnonnullN hx hb dX10_lengthTold_32 ?_
    refine lv_aload_n hx hb dX10_lengthTold_35 rfl (lv_at hl 0 rfl) ?_
    refine lv_iconst (v := 1) hx hb dX10_lengthTold_36 (by decide) ?_
    refine g_callV (own := RX10) (index := 96) (n := 1) hx hb hml hown hts (c_X10_refuseLong l E b0 _ _ aa _ nn hS hn 1 (vp_in_iff.mpr (by decide))) hS.2.2.2.1 rfl rfl m_ml_X10_96 m_im_X10_refuseLong m_se_X10_X10_refuseLong_X10_refuseLong m_in_X10 m_co_X10_refuseLong (by decide +kernel) ⟨Nat.le_of_ble_eq_true rfl, Nat.le_of_ble_eq_true rfl⟩ ⟨by first | exact Nat.le_of_ble_eq_true rfl | (show _ ≤ 0; omega), by first | exact Nat.le_of_ble_eq_true rfl | (show _ ≤ 0; omega)⟩ rfl hl.1 rfl (Nat.le_of_ble_eq_true rfl) dX10_lengthTold_37 hK hI (fun r G1 H1 L1 hp hI => ?_)
    obtain ⟨v, rfl, ev, hS⟩ := hp
    subst ev
    refine W.eq (g2 := F0 mI 40 ls [.long (-9223372036854775708 + ((-10 - 1) : Int32).toInt64)]) rfl ?_
    refine lv_goto (tgt := 51) hx hb dX10_lengthTold_40 (by decide) ?_
    have e9 : lt6 A 7 (ix w) = ((-9223372036854775708 + ((-10 - 1) : Int32).toInt64), (rfs A 1)) := by simp only [lt6, rfj, h_2, reduceIte, Bool.false_eq_true, not_true_eq_false, not_false_eq_true, ite_self]
    exact g_lret hx hb hr hlocks hI ⟨_, rfl, by rw [e9], by rw [e9]; exact hS⟩ dX10_lengthTold_51 (Nat.le_of_ble_eq_true rfl) (Nat.le_of_ble_eq_true rfl)
  · have _ := 0
    refine g_get (index := 74) (ci := 5) hx hb hts inlX5 hown hK hI (hS.hv hn hw h0 hf) rfl 2 (by decide) m_fl_X10_74 (fun _ h9 => h9) rfl dX10_lengthTold_29 ?_
    refine W.eq (g2 := F0 mI 32 ls [.ref (aa (4 * ix w + 2))]) (by rw [cbo_s h_2]; rfl) ?_
    refine lv_ifnonnull (tgt := 43) hx hb dX10_lengthTold_32 (by decide) ?_
    refine lv_aload_n hx hb dX10_lengthTold_43 rfl (lv_at hl 1 rfl) ?_
    refine g_get (index := 74) (ci := 5) hx hb hts inlX5 hown hK hI (hS.hv hn hw h0 hf) rfl 2 (by decide) m_fl_X10_74 (fun _ h9 => h9) rfl dX10_lengthTold_44 ?_
    refine W.eq (g2 := F0 mI 47 ls [.ref (aa (4 * ix w + 2))]) (by rw [cbo_s h_2]; rfl) ?_
    refine g_get (index := 138) (ci := 2) hx hb hts inlX2 hown hK hI (hS.cb hn hw h0 h_2) rfl 0 (by decide) m_fl_X10_138 (fun _ h9 => h9) rfl dX10_lengthTold_47 ?_
    refine lv_i2l hx hb dX10_lengthTold_50 rfl ?_
    have e9 : lt6 A 7 (ix w) = ((((A 7 (ix w)) : Int32).toInt64), A) := by simp only [lt6, rfj, h_2, reduceIte, Bool.false_eq_true, not_true_eq_false, not_false_eq_true, ite_self]
    exact g_lret hx hb hr hlocks hI ⟨_, rfl, by rw [e9], by rw [e9]; exact hS⟩ dX10_lengthTold_51 (Nat.le_of_ble_eq_true rfl) (Nat.le_of_ble_eq_true rfl)
theorem told_0 (A : gA) (s : Int32) : sp_told A s 0 = if isSh s = true then (if fit A (A 0 (ix s)) 0 1 = true then (if eqb (A 0 (ix s)) 0 = true then rfj A 1 else ((A 3 (ix (A 0 (ix s)))).toInt64, A)) else rfj A 5) else (-9223372036854775808, A) := by
  simp only [sp_told, tv7, tv5, lt6, show inb 0 0 7 = true from by decide, show tlo 0 = 0 from by decide, show thi 0 = 1 from by decide, show eqb 0 1 = false from by decide, show eqb 0 3 = false from by decide, show eqb 0 6 = false from by decide, show eqb 0 7 = false from by decide, show ((5 : Int32) < 0) = False from by decide, reduceIte, Bool.false_eq_true, not_true_eq_false, not_false_eq_true, ite_self]
theorem told_1 (A : gA) (s : Int32) : sp_told A s 1 = if isSh s = true then (if fit A (A 0 (ix s)) 1 1 = true then (if eqb (A 0 (ix s)) 0 = true then rfj A 1 else ((A 4 (ix (A 0 (ix s)))).toInt64, A)) else rfj A 5) else (-9223372036854775808, A) := by
  simp only [sp_told, tv7, tv5, lt6, show inb 1 0 7 = true from by decide, show tlo 1 = 1 from by decide, show thi 1 = 1 from by decide, show eqb 1 1 = true from by decide, show eqb 1 3 = false from by decide, show eqb 1 6 = false from by decide, show eqb 1 7 = false from by decide, show ((5 : Int32) < 1) = False from by decide, reduceIte, Bool.false_eq_true, not_true_eq_false, not_false_eq_true, ite_self]
theorem told_2 (A : gA) (s : Int32) : sp_told A s 2 = if isSh s = true then (if fit A (A 0 (ix s)) 2 2 = true then (if eqb (A 0 (ix s)) 0 = true then rfj A 1 else ((A 3 (ix (A 0 (ix s)))).toInt64, A)) else rfj A 5) else (-9223372036854775808, A) := by
  simp only [sp_told, tv7, tv5, lt6, show inb 2 0 7 = true from by decide, show tlo 2 = 2 from by decide, show thi 2 = 2 from by decide, show eqb 2 1 = false from by decide, show eqb 2 3 = false from by decide, show eqb 2 6 = false from by decide, show eqb 2 7 = false from by decide, show ((5 : Int32) < 2) = False from by decide, reduceIte, Bool.false_eq_true, not_true_eq_false, not_false_eq_true, ite_self]
theorem told_3 (A : gA) (s : Int32) : sp_told A s 3 = if isSh s = true then (if fit A (A 0 (ix s)) 2 2 = true then (if eqb (A 0 (ix s)) 0 = true then rfj A 1 else ((A 4 (ix (A 0 (ix s)))).toInt64, A)) else rfj A 5) else (-9223372036854775808, A) := by
  simp only [sp_told, tv7, tv5, lt6, show inb 3 0 7 = true from by decide, show tlo 3 = 2 from by decide, show thi 3 = 2 from by decide, show eqb 3 1 = false from by decide, show eqb 3 3 = true from by decide, show eqb 3 6 = false from by decide, show eqb 3 7 = false from by decide, show ((5 : Int32) < 3) = False from by decide, reduceIte, Bool.false_eq_true, not_true_eq_false, not_false_eq_true, ite_self]
theorem told_4 (A : gA) (s : Int32) : sp_told A s 4 = if isSh s = true then (if fit A (A 0 (ix s)) 3 4 = true then (if eqb (A 0 (ix s)) 0 = true then rfj A 1 else ((A 3 (ix (A 0 (ix s)))).toInt64, A)) else rfj A 5) else (-9223372036854775808, A) := by
  simp only [sp_told, tv7, tv5, lt6, show inb 4 0 7 = true from by decide, show tlo 4 = 3 from by decide, show thi 4 = 4 from by decide, show eqb 4 1 = false from by decide, show eqb 4 3 = false from by decide, show eqb 4 6 = false from by decide, show eqb 4 7 = false from by decide, show ((5 : Int32) < 4) = False from by decide, reduceIte, Bool.false_eq_true, not_true_eq_false, not_false_eq_true, ite_self]
theorem told_5 (A : gA) (s : Int32) : sp_told A s 5 = if isSh s = true then (if fit A (A 0 (ix s)) 5 5 = true then (if eqb (A 0 (ix s)) 0 = true then rfj A 1 else ((A 3 (ix (A 0 (ix s)))).toInt64, A)) else rfj A 5) else (-9223372036854775808, A) := by
  simp only [sp_told, tv7, tv5, lt6, show inb 5 0 7 = true from by decide, show tlo 5 = 5 from by decide, show thi 5 = 5 from by decide, show eqb 5 1 = false from by decide, show eqb 5 3 = false from by decide, show eqb 5 6 = false from by decide, show eqb 5 7 = false from by decide, show ((5 : Int32) < 5) = False from by decide, reduceIte, Bool.false_eq_true, not_true_eq_false, not_false_eq_true, ite_self]
theorem told_6 (A : gA) (s : Int32) : sp_told A s 6 = if isSh s = true then (if fit A (A 0 (ix s)) 6 7 = true then (if eqb (A 0 (ix s)) 0 = true then rfj A 1 else lt6 A 5 (ix (A 0 (ix s)))) else rfj A 5) else (-9223372036854775808, A) := by
  simp only [sp_told, tv7, tv5, lt6, show inb 6 0 7 = true from by decide, show tlo 6 = 6 from by decide, show thi 6 = 7 from by decide, show eqb 6 1 = false from by decide, show eqb 6 3 = false from by decide, show eqb 6 6 = true from by decide, show eqb 6 7 = false from by decide, show ((5 : Int32) < 6) = True from by decide, reduceIte, Bool.false_eq_true, not_true_eq_false, not_false_eq_true, ite_self]
theorem told_7 (A : gA) (s : Int32) : sp_told A s 7 = if isSh s = true then (if fit A (A 0 (ix s)) 6 7 = true then (if eqb (A 0 (ix s)) 0 = true then rfj A 1 else lt6 A 7 (ix (A 0 (ix s)))) else rfj A 5) else (-9223372036854775808, A) := by
  simp only [sp_told, tv7, tv5, lt6, show inb 7 0 7 = true from by decide, show tlo 7 = 6 from by decide, show thi 7 = 7 from by decide, show eqb 7 1 = false from by decide, show eqb 7 3 = false from by decide, show eqb 7 6 = false from by decide, show eqb 7 7 = true from by decide, show ((5 : Int32) < 7) = True from by decide, reduceIte, Bool.false_eq_true, not_true_eq_false, not_false_eq_true, ite_self]
set_option maxHeartbeats 4000000 in
set_option maxRecDepth 100000 in
theorem c_X10_told (l : Launch) (E : gE) (b0 : Nat) (G : gG) (x : Nat) (aa : Nat → Nat) (A : gA) (nn : Nat) (hS : SW E x aa A nn G) (hn : nn < 600) (s w : Int32) : gM l yX10_told cX10_told 5 (some .long) 5 2 160 E b0 G [.ref x, .int s, .int w] (pL (fun v9 G1 => v9 = (sp_told A s w).1 ∧ ∃ aa1 n1, n1 ≤ nn + 1 ∧ SW E x aa1 (sp_told A s w).2 n1 G1)) := by
  obtain rfl : aa 0 = x := hS.2.2.1
  refine gM.of (by decide +kernel) (Nat.le_of_ble_eq_true rfl) ?_
  intro pP eP sP mI bP meth cP ls hx hb hr hml hown hlocks hnm hts hK hI hl
  have hl : lv_has ls 5 [(0, .ref (aa 0)), (1, .int s), (2, .int w)] := hl
  have hown : sP.vm.findClass RX10 = some mI.cls := hown
  refine lv_iload_n hx hb dX10_told_0 rfl (lv_at hl 1 rfl) ?_
  refine g_callS (own := RX10) (index := 23) (n := 1) hx hb hml hown hts (c_X10_isShelf l E b0 _ s) m_ml_X10_23 m_st_X10_isShelf m_in_X10 m_co_X10_isShelf (by decide +kernel) ⟨Nat.le_of_ble_eq_true rfl, Nat.le_of_ble_eq_true rfl⟩ ⟨by first | exact Nat.le_of_ble_eq_true rfl | (show _ ≤ 2; omega), by first | exact Nat.le_of_ble_eq_true rfl | (show _ ≤ 160; omega)⟩ rfl hl.1 rfl (Nat.le_of_ble_eq_true rfl) dX10_told_1 hK hI (fun r G1 H1 L1 hp hI => ?_)
  obtain ⟨v, rfl, hGe, ⟨h_1, rfl⟩ | ⟨h_1, rfl⟩⟩ := hp
  · rw [hGe] at hI
    refine W.eq (g2 := F0 mI 4 ls [.int 1]) rfl ?_
    refine lv_if_eq (tgt := 17) hx hb dX10_told_4 (by decide) (fun c_2 => absurd c_2 (by decide)) (fun _ => ?_)
    refine lv_iload_n hx hb dX10_told_7 rfl (lv_at hl 2 rfl) ?_
    refine lv_if_lt (tgt := 17) hx hb dX10_told_8 (by decide) (fun c_3 => ?_) (fun c_3 => ?_)
    · refine lv_ldc2 hx hb hown (hts _ m_kl_X10_94) dX10_told_17 ?_
      have e9 : sp_told A s w = ((-9223372036854775808), A) := by
        simp only [sp_told, inb, decide_true, decide_false, Bool.not_false, Bool.not_true, Bool.and_true, Bool.true_and, Bool.false_and, Bool.and_false, Bool.and_self, rfi, rfj, wHv, wRw, wSl, h_1, c_3, eqb_00, eqb_10, eqb_20, eqb_30, eqb_50, eqb_11, eqb_21, reduceIte, Bool.false_eq_true, not_true_eq_false, not_false_eq_true, ite_self]
      exact g_lret hx hb hr hlocks hI ⟨_, rfl, by rw [e9], aa, nn, by omega, by rw [e9]; exact hS⟩ dX10_told_20 (by omega) (by omega)
    · refine lv_iload_n hx hb dX10_told_11 rfl (lv_at hl 2 rfl) ?_
      refine lv_bipush (v := 7) hx hb dX10_told_12 (by decide) ?_
      refine lv_icmp_le (tgt := 21) hx hb dX10_told_14 (by decide) (fun c_4 => ?_) (fun c_4 => ?_)
      · have c_4 := Int32.not_lt.mpr c_4
        refine lv_aload_n hx hb dX10_told_21 rfl (lv_at hl 0 rfl) ?_
        refine g_get (index := 11) (ci := 8) hx hb hts inlX10 hown hK hI hS.2.2.2.1 rfl 0 (by decide) m_fl_X10_11 (fun _ h9 => h9) rfl dX10_told_22 ?_
        refine lv_iload_n hx hb dX10_told_25 rfl (lv_at hl 1 rfl) ?_
        rcases btf (eqb (A 0 (ix s)) 0) with h_5 | h_5
        · have z_6 := fun lo hi => fit_0 (A := A) lo hi h_5
          have t_7 : tv nn (A 0 (ix s)) := (hS.tsh h_1)
          refine g_aald hx hb hK hI 1 hS.2.2.2.2.1 rfl (sh_in h_1) dX10_told_26 ?_
          refine W.eq (g2 := F0 mI 27 ls [.null]) (by rw [show shf aa A (Int32.toNatClampNeg s) = adr aa (A 0 (ix s)) from shf_at h_1, adr_n h_5]; rfl) ?_
          refine lv_astore_nN (lv' := [(3, .null), (0, .ref (aa 0)), (1, .int s), (2, .int w)]) hx hb dX10_told_27 rfl hl (by decide) rfl (fun ls hl => ?_)
          refine lv_aload_nN hx hb dX10_told_28 rfl (lv_at hl 0 rfl) ?_
          refine lv_ifnonnullN hx hb dX10_told_29 ?_
          refine lv_aload_n hx hb dX10_told_32 rfl (lv_at hl 1 rfl) ?_
          refine lv_iconst (v := 1) hx hb dX10_told_33 (by decide) ?_
          refine g_callV (own := RX10) (index := 96) (n := 1) hx hb hml hown hts (c_X10_refuseLong l E b0 _ _ aa _ nn hS hn 1 (vp_in_iff.mpr (by decide))) hS.2.2.2.1 rfl rfl m_ml_X10_96 m_im_X10_refuseLong m_se_X10_X10_refuseLong_X10_refuseLong m_in_X10 m_co_X10_refuseLong (by decide +kernel) ⟨Nat.le_of_ble_eq_true rfl, Nat.le_of_ble_eq_true rfl⟩ ⟨by first | exact Nat.le_of_ble_eq_true rfl | (show _ ≤ 2; omega), by first | exact Nat.le_of_ble_eq_true rfl | (show _ ≤ 160; omega)⟩ rfl hl.1 rfl (Nat.le_of_ble_eq_true rfl) dX10_told_34 hK hI (fun r G1 H1 L1 hp hI => ?_)
          obtain ⟨v, rfl, ev, hS⟩ := hp
          subst ev
          refine W.eq (g2 := F0 mI 37 ls [.long (-9223372036854775708 + ((-10 - 1) : Int32).toInt64)]) rfl ?_
          have e9 : sp_told A s w = ((-9223372036854775708 + ((-10 - 1) : Int32).toInt64), (rfs A 1)) := by
            simp only [sp_told, inb, decide_true, decide_false, Bool.not_false, Bool.not_true, Bool.and_true, Bool.true_and, Bool.false_and, Bool.and_false, Bool.and_self, rfi, rfj, wHv, wRw, wSl, h_1, c_3, c_4, h_5, z_6, eqb_00, eqb_10, eqb_20, eqb_30, eqb_50, eqb_11, eqb_21, reduceIte, Bool.false_eq_true, not_true_eq_false, not_false_eq_true, ite_self]
          exact g_lret hx hb hr hlocks hI ⟨_, rfl, by rw [e9], aa, nn, by omega, by rw [e9]; exact hS⟩ dX10_told_37 (by omega) (by omega)
        · have _ := 0
          have t_8 : tv nn (A 0 (ix s)) := (hS.tsh h_1)
          refine g_aald hx hb hK hI 1 hS.2.2.2.2.1 rfl (sh_in h_1) dX10_told_26 ?_
          refine W.eq (g2 := F0 mI 27 ls [.ref (aa (4 * ix (A 0 (ix s))))]) (by rw [show shf aa A (Int32.toNatClampNeg s) = adr aa (A 0 (ix s)) from shf_at h_1, adr_s h_5]; rfl) ?_
          refine lv_astore_n (lv' := [(3, .ref (aa (4 * ix (A 0 (ix s))))), (0, .ref (aa 0)), (1, .int s), (2, .int w)]) hx hb dX10_told_27 rfl hl (by decide) rfl (fun ls hl => ?_)
          refine lv_aload_n hx hb dX10_told_28 rfl (lv_at hl 0 rfl) ?_
          refine lv_ifnonnull (tgt := 38) hx hb dX10_told_29 (by decide) ?_
          rcases glit7 c_3 c_4 with rfl | rfl | rfl | rfl | rfl | rfl | rfl | rfl
          · have _ := 0
            refine lv_iload_n hx hb dX10_told_38 rfl (lv_at hl 3 rfl) ?_
            refine lv_tableIn (off := 37) (tgt := 76) hx hb dX10_told_39 (by decide) (by decide) (by decide) (by decide) ?_
            refine lv_aload_n hx hb dX10_told_76 rfl (lv_at hl 0 rfl) ?_
            rcases btf (fit A (A 0 (ix s)) 0 1) with h_9 | h_9
            · have _ := 0
              refine g_inst (index := 37) hx hb hts hown hK hI 4 (hS.at hn t_8 h_5) (cix_in _) (by decide) m_cl_X10_37 dX10_told_77 ?_
              refine W.eq (g2 := F0 mI 80 ls [.int 1]) (by rw [(hS.gs hn t_8 h_5 4 (by decide) h_9)]; rfl) ?_
              refine lv_if_eq (tgt := 98) hx hb dX10_told_80 (by decide) (fun c_10 => absurd c_10 (by decide)) (fun _ => ?_)
              refine lv_aload_n hx hb dX10_told_83 rfl (lv_at hl 0 rfl) ?_
              refine g_cast (index := 37) hx hb hts hown hK hI 4 (hS.at hn t_8 h_5) (cix_in _) (by decide) (hS.gs hn t_8 h_5 4 (by decide) h_9) m_cl_X10_37 dX10_told_84 ?_
              refine lv_astore (lv' := [(4, .ref (aa (4 * ix (A 0 (ix s))))), (3, .ref (aa (4 * ix (A 0 (ix s))))), (0, .ref (aa 0)), (1, .int s), (2, .int 0)]) hx hb dX10_told_87 hl (by decide) rfl (fun ls hl => ?_)
              refine lv_aload hx hb dX10_told_89 (lv_at hl 0 rfl) ?_
              rcases fit_2 (A := A) (k := 0) (m := 1) (by decide) h_5 h_9 with h_11 | h_11
              · have _ := 0
                refine g_get (index := 100) (ci := 4) hx hb hts inlX4 hown hK hI (((hS.at hn t_8 h_5)).trans (congrArg some (thc_0 h_11))) rfl 1 (by decide) m_fl_X10_100 (fun _ h9 => h9) rfl dX10_told_91 ?_
                refine lv_i2l hx hb dX10_told_94 rfl ?_
                refine lv_goto (tgt := 103) hx hb dX10_told_95 (by decide) ?_
                have e9 : sp_told A s 0 = ((((A 3 (ix (A 0 (ix s)))) : Int32).toInt64), A) := by
                  simp only [told_0, rfi, rfj, wHv, wRw, wSl, h_1, c_3, c_4, h_5, h_9, h_11, eqb_00, eqb_10, eqb_20, eqb_30, eqb_50, eqb_11, eqb_21, reduceIte, Bool.false_eq_true, not_true_eq_false, not_false_eq_true, ite_self]
                exact g_lret hx hb hr hlocks hI ⟨_, rfl, by rw [e9], aa, nn, by omega, by rw [e9]; exact hS⟩ dX10_told_103 (by omega) (by omega)
              · have _ := 0
                refine g_get (index := 100) (ci := 1) hx hb hts inlX1 hown hK hI (((hS.at hn t_8 h_5)).trans (congrArg some (thc_1 h_11))) rfl 0 (by decide) m_fl_X10_100 (fun _ h9 => h9) rfl dX10_told_91 ?_
                refine lv_i2l hx hb dX10_told_94 rfl ?_
                refine lv_goto (tgt := 103) hx hb dX10_told_95 (by decide) ?_
                have e9 : sp_told A s 0 = ((((A 3 (ix (A 0 (ix s)))) : Int32).toInt64), A) := by
                  simp only [told_0, rfi, rfj, wHv, wRw, wSl, h_1, c_3, c_4, h_5, h_9, h_11, eqb_00, eqb_10, eqb_20, eqb_30, eqb_50, eqb_11, eqb_21, reduceIte, Bool.false_eq_true, not_true_eq_false, not_false_eq_true, ite_self]
                exact g_lret hx hb hr hlocks hI ⟨_, rfl, by rw [e9], aa, nn, by omega, by rw [e9]; exact hS⟩ dX10_told_103 (by omega) (by omega)
            · have _ := 0
              refine g_inst (index := 37) hx hb hts hown hK hI 4 (hS.at hn t_8 h_5) (cix_in _) (by decide) m_cl_X10_37 dX10_told_77 ?_
              refine W.eq (g2 := F0 mI 80 ls [.int 0]) (by rw [(hS.gs hn t_8 h_5 4 (by decide) h_9)]; rfl) ?_
              refine lv_if_eq (tgt := 98) hx hb dX10_told_80 (by decide) (fun _ => ?_) (fun c_12 => absurd c_12 (by decide))
              refine lv_aload_n hx hb dX10_told_98 rfl (lv_at hl 1 rfl) ?_
              refine lv_iconst (v := 5) hx hb dX10_told_99 (by decide) ?_
              refine g_callV (own := RX10) (index := 96) (n := 1) hx hb hml hown hts (c_X10_refuseLong l E b0 _ _ aa _ nn hS hn 5 (vp_in_iff.mpr (by decide))) hS.2.2.2.1 rfl rfl m_ml_X10_96 m_im_X10_refuseLong m_se_X10_X10_refuseLong_X10_refuseLong m_in_X10 m_co_X10_refuseLong (by decide +kernel) ⟨Nat.le_of_ble_eq_true rfl, Nat.le_of_ble_eq_true rfl⟩ ⟨by first | exact Nat.le_of_ble_eq_true rfl | (show _ ≤ 2; omega), by first | exact Nat.le_of_ble_eq_true rfl | (show _ ≤ 160; omega)⟩ rfl hl.1 rfl (Nat.le_of_ble_eq_true rfl) dX10_told_100 hK hI (fun r G1 H1 L1 hp hI => ?_)
              obtain ⟨v, rfl, ev, hS⟩ := hp
              subst ev
              refine W.eq (g2 := F0 mI 103 ls [.long (-9223372036854775708 + ((-10 - 5) : Int32).toInt64)]) rfl ?_
              have e9 : sp_told A s 0 = ((-9223372036854775708 + ((-10 - 5) : Int32).toInt64), (rfs A 5)) := by
                simp only [told_0, rfi, rfj, wHv, wRw, wSl, h_1, c_3, c_4, h_5, h_9, eqb_00, eqb_10, eqb_20, eqb_30, eqb_50, eqb_11, eqb_21, reduceIte, Bool.false_eq_true, not_true_eq_false, not_false_eq_true, ite_self]
              exact g_lret hx hb hr hlocks hI ⟨_, rfl, by rw [e9], aa, nn, by omega, by rw [e9]; exact hS⟩ dX10_told_103 (by omega) (by omega)
          · have _ := 0
            refine lv_iload_n hx hb dX10_told_38 rfl (lv_at hl 3 rfl) ?_
            refine lv_tableIn (off := 65) (tgt := 104) hx hb dX10_told_39 (by decide) (by decide) (by decide) (by decide) ?_
            refine lv_aload_n hx hb dX10_told_104 rfl (lv_at hl 0 rfl) ?_
            rcases btf (fit A (A 0 (ix s)) 1 1) with h_13 | h_13
            · have _ := 0
              refine g_inst (index := 112) hx hb hts hown hK hI 1 (hS.at hn t_8 h_5) (cix_in _) (by decide) m_cl_X10_112 dX10_told_105 ?_
              refine W.eq (g2 := F0 mI 108 ls [.int 1]) (by rw [(hS.gs hn t_8 h_5 1 (by decide) h_13)]; rfl) ?_
              refine lv_if_eq (tgt := 126) hx hb dX10_told_108 (by decide) (fun c_14 => absurd c_14 (by decide)) (fun _ => ?_)
              refine lv_aload_n hx hb dX10_told_111 rfl (lv_at hl 0 rfl) ?_
              refine g_cast (index := 112) hx hb hts hown hK hI 1 (hS.at hn t_8 h_5) (cix_in _) (by decide) (hS.gs hn t_8 h_5 1 (by decide) h_13) m_cl_X10_112 dX10_told_112 ?_
              refine lv_astore (lv' := [(4, .ref (aa (4 * ix (A 0 (ix s))))), (3, .ref (aa (4 * ix (A 0 (ix s))))), (0, .ref (aa 0)), (1, .int s), (2, .int 1)]) hx hb dX10_told_115 hl (by decide) rfl (fun ls hl => ?_)
              refine lv_aload hx hb dX10_told_117 (lv_at hl 0 rfl) ?_
              have h_15 := fit_pt (A := A) h_5 h_13
              refine g_get (index := 111) (ci := 1) hx hb hts inlX1 hown hK hI (((hS.at hn t_8 h_5)).trans (congrArg some (thc_1 h_15))) rfl 2 (by decide) m_fl_X10_111 (fun _ h9 => h9) rfl dX10_told_119 ?_
              refine lv_i2l hx hb dX10_told_122 rfl ?_
              refine lv_goto (tgt := 131) hx hb dX10_told_123 (by decide) ?_
              have e9 : sp_told A s 1 = ((((A 4 (ix (A 0 (ix s)))) : Int32).toInt64), A) := by
                simp only [told_1, rfi, rfj, wHv, wRw, wSl, h_1, c_3, c_4, h_5, h_13, eqb_00, eqb_10, eqb_20, eqb_30, eqb_50, eqb_11, eqb_21, reduceIte, Bool.false_eq_true, not_true_eq_false, not_false_eq_true, ite_self]
              exact g_lret hx hb hr hlocks hI ⟨_, rfl, by rw [e9], aa, nn, by omega, by rw [e9]; exact hS⟩ dX10_told_131 (by omega) (by omega)
            · have _ := 0
              refine g_inst (index := 112) hx hb hts hown hK hI 1 (hS.at hn t_8 h_5) (cix_in _) (by decide) m_cl_X10_112 dX10_told_105 ?_
              refine W.eq (g2 := F0 mI 108 ls [.int 0]) (by rw [(hS.gs hn t_8 h_5 1 (by decide) h_13)]; rfl) ?_
              refine lv_if_eq (tgt := 126) hx hb dX10_told_108 (by decide) (fun _ => ?_) (fun c_16 => absurd c_16 (by decide))
              refine lv_aload_n hx hb dX10_told_126 rfl (lv_at hl 1 rfl) ?_
              refine lv_iconst (v := 5) hx hb dX10_told_127 (by decide) ?_
              refine g_callV (own := RX10) (index := 96) (n := 1) hx hb hml hown hts (c_X10_refuseLong l E b0 _ _ aa _ nn hS hn 5 (vp_in_iff.mpr (by decide))) hS.2.2.2.1 rfl rfl m_ml_X10_96 m_im_X10_refuseLong m_se_X10_X10_refuseLong_X10_refuseLong m_in_X10 m_co_X10_refuseLong (by decide +kernel) ⟨Nat.le_of_ble_eq_true rfl, Nat.le_of_ble_eq_true rfl⟩ ⟨by first | exact Nat.le_of_ble_eq_true rfl | (show _ ≤ 2; omega), by first | exact Nat.le_of_ble_eq_true rfl | (show _ ≤ 160; omega)⟩ rfl hl.1 rfl (Nat.le_of_ble_eq_true rfl) dX10_told_128 hK hI (fun r G1 H1 L1 hp hI => ?_)
              obtain ⟨v, rfl, ev, hS⟩ := hp
              subst ev
              refine W.eq (g2 := F0 mI 131 ls [.long (-9223372036854775708 + ((-10 - 5) : Int32).toInt64)]) rfl ?_
              have e9 : sp_told A s 1 = ((-9223372036854775708 + ((-10 - 5) : Int32).toInt64), (rfs A 5)) := by
                simp only [told_1, rfi, rfj, wHv, wRw, wSl, h_1, c_3, c_4, h_5, h_13, eqb_00, eqb_10, eqb_20, eqb_30, eqb_50, eqb_11, eqb_21, reduceIte, Bool.false_eq_true, not_true_eq_false, not_false_eq_true, ite_self]
              exact g_lret hx hb hr hlocks hI ⟨_, rfl, by rw [e9], aa, nn, by omega, by rw [e9]; exact hS⟩ dX10_told_131 (by omega) (by omega)
          · have _ := 0
            refine lv_iload_n hx hb dX10_told_38 rfl (lv_at hl 3 rfl) ?_
            refine lv_tableIn (off := 93) (tgt := 132) hx hb dX10_told_39 (by decide) (by decide) (by decide) (by decide) ?_
            refine lv_aload_n hx hb dX10_told_132 rfl (lv_at hl 0 rfl) ?_
            rcases btf (fit A (A 0 (ix s)) 2 2) with h_17 | h_17
            · have _ := 0
              refine g_inst (index := 117) hx hb hts hown hK hI 7 (hS.at hn t_8 h_5) (cix_in _) (by decide) m_cl_X10_117 dX10_told_133 ?_
              refine W.eq (g2 := F0 mI 136 ls [.int 1]) (by rw [(hS.gs hn t_8 h_5 7 (by decide) h_17)]; rfl) ?_
              refine lv_if_eq (tgt := 154) hx hb dX10_told_136 (by decide) (fun c_18 => absurd c_18 (by decide)) (fun _ => ?_)
              refine lv_aload_n hx hb dX10_told_139 rfl (lv_at hl 0 rfl) ?_
              refine g_cast (index := 117) hx hb hts hown hK hI 7 (hS.at hn t_8 h_5) (cix_in _) (by decide) (hS.gs hn t_8 h_5 7 (by decide) h_17) m_cl_X10_117 dX10_told_140 ?_
              refine lv_astore (lv' := [(4, .ref (aa (4 * ix (A 0 (ix s))))), (3, .ref (aa (4 * ix (A 0 (ix s))))), (0, .ref (aa 0)), (1, .int s), (2, .int 2)]) hx hb dX10_told_143 hl (by decide) rfl (fun ls hl => ?_)
              refine lv_aload hx hb dX10_told_145 (lv_at hl 0 rfl) ?_
              have h_19 := fit_pt (A := A) h_5 h_17
              refine g_get (index := 116) (ci := 6) hx hb hts inlX7 hown hK hI (((hS.at hn t_8 h_5)).trans (congrArg some (thc_2 h_19))) rfl 1 (by decide) m_fl_X10_116 (fun _ h9 => h9) rfl dX10_told_147 ?_
              refine lv_i2l hx hb dX10_told_150 rfl ?_
              refine lv_goto (tgt := 159) hx hb dX10_told_151 (by decide) ?_
              have e9 : sp_told A s 2 = ((((A 3 (ix (A 0 (ix s)))) : Int32).toInt64), A) := by
                simp only [told_2, rfi, rfj, wHv, wRw, wSl, h_1, c_3, c_4, h_5, h_17, eqb_00, eqb_10, eqb_20, eqb_30, eqb_50, eqb_11, eqb_21, reduceIte, Bool.false_eq_true, not_true_eq_false, not_false_eq_true, ite_self]
              exact g_lret hx hb hr hlocks hI ⟨_, rfl, by rw [e9], aa, nn, by omega, by rw [e9]; exact hS⟩ dX10_told_159 (by omega) (by omega)
            · have _ := 0
              refine g_inst (index := 117) hx hb hts hown hK hI 7 (hS.at hn t_8 h_5) (cix_in _) (by decide) m_cl_X10_117 dX10_told_133 ?_
              refine W.eq (g2 := F0 mI 136 ls [.int 0]) (by rw [(hS.gs hn t_8 h_5 7 (by decide) h_17)]; rfl) ?_
              refine lv_if_eq (tgt := 154) hx hb dX10_told_136 (by decide) (fun _ => ?_) (fun c_20 => absurd c_20 (by decide))
              refine lv_aload_n hx hb dX10_told_154 rfl (lv_at hl 1 rfl) ?_
              refine lv_iconst (v := 5) hx hb dX10_told_155 (by decide) ?_
              refine g_callV (own := RX10) (index := 96) (n := 1) hx hb hml hown hts (c_X10_refuseLong l E b0 _ _ aa _ nn hS hn 5 (vp_in_iff.mpr (by decide))) hS.2.2.2.1 rfl rfl m_ml_X10_96 m_im_X10_refuseLong m_se_X10_X10_refuseLong_X10_refuseLong m_in_X10 m_co_X10_refuseLong (by decide +kernel) ⟨Nat.le_of_ble_eq_true rfl, Nat.le_of_ble_eq_true rfl⟩ ⟨by first | exact Nat.le_of_ble_eq_true rfl | (show _ ≤ 2; omega), by first | exact Nat.le_of_ble_eq_true rfl | (show _ ≤ 160; omega)⟩ rfl hl.1 rfl (Nat.le_of_ble_eq_true rfl) dX10_told_156 hK hI (fun r G1 H1 L1 hp hI => ?_)
              obtain ⟨v, rfl, ev, hS⟩ := hp
              subst ev
              refine W.eq (g2 := F0 mI 159 ls [.long (-9223372036854775708 + ((-10 - 5) : Int32).toInt64)]) rfl ?_
              have e9 : sp_told A s 2 = ((-9223372036854775708 + ((-10 - 5) : Int32).toInt64), (rfs A 5)) := by
                simp only [told_2, rfi, rfj, wHv, wRw, wSl, h_1, c_3, c_4, h_5, h_17, eqb_00, eqb_10, eqb_20, eqb_30, eqb_50, eqb_11, eqb_21, reduceIte, Bool.false_eq_true, not_true_eq_false, not_false_eq_true, ite_self]
              exact g_lret hx hb hr hlocks hI ⟨_, rfl, by rw [e9], aa, nn, by omega, by rw [e9]; exact hS⟩ dX10_told_159 (by omega) (by omega)
          · have _ := 0
            refine lv_iload_n hx hb dX10_told_38 rfl (lv_at hl 3 rfl) ?_
            refine lv_tableIn (off := 121) (tgt := 160) hx hb dX10_told_39 (by decide) (by decide) (by decide) (by decide) ?_
            refine lv_aload_n hx hb dX10_told_160 rfl (lv_at hl 0 rfl) ?_
            rcases btf (fit A (A 0 (ix s)) 2 2) with h_21 | h_21
            · have _ := 0
              refine g_inst (index := 117) hx hb hts hown hK hI 7 (hS.at hn t_8 h_5) (cix_in _) (by decide) m_cl_X10_117 dX10_told_161 ?_
              refine W.eq (g2 := F0 mI 164 ls [.int 1]) (by rw [(hS.gs hn t_8 h_5 7 (by decide) h_21)]; rfl) ?_
              refine lv_if_eq (tgt := 182) hx hb dX10_told_164 (by decide) (fun c_22 => absurd c_22 (by decide)) (fun _ => ?_)
              refine lv_aload_n hx hb dX10_told_167 rfl (lv_at hl 0 rfl) ?_
              refine g_cast (index := 117) hx hb hts hown hK hI 7 (hS.at hn t_8 h_5) (cix_in _) (by decide) (hS.gs hn t_8 h_5 7 (by decide) h_21) m_cl_X10_117 dX10_told_168 ?_
              refine lv_astore (lv' := [(4, .ref (aa (4 * ix (A 0 (ix s))))), (3, .ref (aa (4 * ix (A 0 (ix s))))), (0, .ref (aa 0)), (1, .int s), (2, .int 3)]) hx hb dX10_told_171 hl (by decide) rfl (fun ls hl => ?_)
              refine lv_aload hx hb dX10_told_173 (lv_at hl 0 rfl) ?_
              have h_23 := fit_pt (A := A) h_5 h_21
              refine g_get (index := 121) (ci := 6) hx hb hts inlX7 hown hK hI (((hS.at hn t_8 h_5)).trans (congrArg some (thc_2 h_23))) rfl 2 (by decide) m_fl_X10_121 (fun _ h9 => h9) rfl dX10_told_175 ?_
              refine lv_i2l hx hb dX10_told_178 rfl ?_
              refine lv_goto (tgt := 187) hx hb dX10_told_179 (by decide) ?_
              have e9 : sp_told A s 3 = ((((A 4 (ix (A 0 (ix s)))) : Int32).toInt64), A) := by
                simp only [told_3, rfi, rfj, wHv, wRw, wSl, h_1, c_3, c_4, h_5, h_21, eqb_00, eqb_10, eqb_20, eqb_30, eqb_50, eqb_11, eqb_21, reduceIte, Bool.false_eq_true, not_true_eq_false, not_false_eq_true, ite_self]
              exact g_lret hx hb hr hlocks hI ⟨_, rfl, by rw [e9], aa, nn, by omega, by rw [e9]; exact hS⟩ dX10_told_187 (by omega) (by omega)
            · have _ := 0
              refine g_inst (index := 117) hx hb hts hown hK hI 7 (hS.at hn t_8 h_5) (cix_in _) (by decide) m_cl_X10_117 dX10_told_161 ?_
              refine W.eq (g2 := F0 mI 164 ls [.int 0]) (by rw [(hS.gs hn t_8 h_5 7 (by decide) h_21)]; rfl) ?_
              refine lv_if_eq (tgt := 182) hx hb dX10_told_164 (by decide) (fun _ => ?_) (fun c_24 => absurd c_24 (by decide))
              refine lv_aload_n hx hb dX10_told_182 rfl (lv_at hl 1 rfl) ?_
              refine lv_iconst (v := 5) hx hb dX10_told_183 (by decide) ?_
              refine g_callV (own := RX10) (index := 96) (n := 1) hx hb hml hown hts (c_X10_refuseLong l E b0 _ _ aa _ nn hS hn 5 (vp_in_iff.mpr (by decide))) hS.2.2.2.1 rfl rfl m_ml_X10_96 m_im_X10_refuseLong m_se_X10_X10_refuseLong_X10_refuseLong m_in_X10 m_co_X10_refuseLong (by decide +kernel) ⟨Nat.le_of_ble_eq_true rfl, Nat.le_of_ble_eq_true rfl⟩ ⟨by first | exact Nat.le_of_ble_eq_true rfl | (show _ ≤ 2; omega), by first | exact Nat.le_of_ble_eq_true rfl | (show _ ≤ 160; omega)⟩ rfl hl.1 rfl (Nat.le_of_ble_eq_true rfl) dX10_told_184 hK hI (fun r G1 H1 L1 hp hI => ?_)
              obtain ⟨v, rfl, ev, hS⟩ := hp
              subst ev
              refine W.eq (g2 := F0 mI 187 ls [.long (-9223372036854775708 + ((-10 - 5) : Int32).toInt64)]) rfl ?_
              have e9 : sp_told A s 3 = ((-9223372036854775708 + ((-10 - 5) : Int32).toInt64), (rfs A 5)) := by
                simp only [told_3, rfi, rfj, wHv, wRw, wSl, h_1, c_3, c_4, h_5, h_21, eqb_00, eqb_10, eqb_20, eqb_30, eqb_50, eqb_11, eqb_21, reduceIte, Bool.false_eq_true, not_true_eq_false, not_false_eq_true, ite_self]
              exact g_lret hx hb hr hlocks hI ⟨_, rfl, by rw [e9], aa, nn, by omega, by rw [e9]; exact hS⟩ dX10_told_187 (by omega) (by omega)
          · have _ := 0
            refine lv_iload_n hx hb dX10_told_38 rfl (lv_at hl 3 rfl) ?_
            refine lv_tableIn (off := 149) (tgt := 188) hx hb dX10_told_39 (by decide) (by decide) (by decide) (by decide) ?_
            refine lv_aload_n hx hb dX10_told_188 rfl (lv_at hl 0 rfl) ?_
            rcases btf (fit A (A 0 (ix s)) 3 4) with h_25 | h_25
            · have _ := 0
              refine g_inst (index := 129) hx hb hts hown hK hI 6 (hS.at hn t_8 h_5) (cix_in _) (by decide) m_cl_X10_129 dX10_told_189 ?_
              refine W.eq (g2 := F0 mI 192 ls [.int 1]) (by rw [(hS.gs hn t_8 h_5 6 (by decide) h_25)]; rfl) ?_
              refine lv_if_eq (tgt := 210) hx hb dX10_told_192 (by decide) (fun c_26 => absurd c_26 (by decide)) (fun _ => ?_)
              refine lv_aload_n hx hb dX10_told_195 rfl (lv_at hl 0 rfl) ?_
              refine g_cast (index := 129) hx hb hts hown hK hI 6 (hS.at hn t_8 h_5) (cix_in _) (by decide) (hS.gs hn t_8 h_5 6 (by decide) h_25) m_cl_X10_129 dX10_told_196 ?_
              refine lv_astore (lv' := [(4, .ref (aa (4 * ix (A 0 (ix s))))), (3, .ref (aa (4 * ix (A 0 (ix s))))), (0, .ref (aa 0)), (1, .int s), (2, .int 4)]) hx hb dX10_told_199 hl (by decide) rfl (fun ls hl => ?_)
              refine lv_aload hx hb dX10_told_201 (lv_at hl 0 rfl) ?_
              rcases fit_2 (A := A) (k := 3) (m := 4) (by decide) h_5 h_25 with h_27 | h_27
              · have _ := 0
                refine g_get (index := 160) (ci := 7) hx hb hts inlX8 hown hK hI (((hS.at hn t_8 h_5)).trans (congrArg some (thc_3 h_27))) rfl 0 (by decide) m_fl_X10_160 (fun _ h9 => h9) rfl dX10_told_203 ?_
                refine lv_i2l hx hb dX10_told_206 rfl ?_
                refine lv_goto (tgt := 215) hx hb dX10_told_207 (by decide) ?_
                have e9 : sp_told A s 4 = ((((A 3 (ix (A 0 (ix s)))) : Int32).toInt64), A) := by
                  simp only [told_4, rfi, rfj, wHv, wRw, wSl, h_1, c_3, c_4, h_5, h_25, h_27, eqb_00, eqb_10, eqb_20, eqb_30, eqb_50, eqb_11, eqb_21, reduceIte, Bool.false_eq_true, not_true_eq_false, not_false_eq_true, ite_self]
                exact g_lret hx hb hr hlocks hI ⟨_, rfl, by rw [e9], aa, nn, by omega, by rw [e9]; exact hS⟩ dX10_told_215 (by omega) (by omega)
              · have _ := 0
                refine g_get (index := 160) (ci := 3) hx hb hts inlX3 hown hK hI (((hS.at hn t_8 h_5)).trans (congrArg some (thc_4 h_27))) rfl 0 (by decide) m_fl_X10_160 (fun _ h9 => h9) rfl dX10_told_203 ?_
                refine lv_i2l hx hb dX10_told_206 rfl ?_
                refine lv_goto (tgt := 215) hx hb dX10_told_207 (by decide) ?_
                have e9 : sp_told A s 4 = ((((A 3 (ix (A 0 (ix s)))) : Int32).toInt64), A) := by
                  simp only [told_4, rfi, rfj, wHv, wRw, wSl, h_1, c_3, c_4, h_5, h_25, h_27, eqb_00, eqb_10, eqb_20, eqb_30, eqb_50, eqb_11, eqb_21, reduceIte, Bool.false_eq_true, not_true_eq_false, not_false_eq_true, ite_self]
                exact g_lret hx hb hr hlocks hI ⟨_, rfl, by rw [e9], aa, nn, by omega, by rw [e9]; exact hS⟩ dX10_told_215 (by omega) (by omega)
            · have _ := 0
              refine g_inst (index := 129) hx hb hts hown hK hI 6 (hS.at hn t_8 h_5) (cix_in _) (by decide) m_cl_X10_129 dX10_told_189 ?_
              refine W.eq (g2 := F0 mI 192 ls [.int 0]) (by rw [(hS.gs hn t_8 h_5 6 (by decide) h_25)]; rfl) ?_
              refine lv_if_eq (tgt := 210) hx hb dX10_told_192 (by decide) (fun _ => ?_) (fun c_28 => absurd c_28 (by decide))
              refine lv_aload_n hx hb dX10_told_210 rfl (lv_at hl 1 rfl) ?_
              refine lv_iconst (v := 5) hx hb dX10_told_211 (by decide) ?_
              refine g_callV (own := RX10) (index := 96) (n := 1) hx hb hml hown hts (c_X10_refuseLong l E b0 _ _ aa _ nn hS hn 5 (vp_in_iff.mpr (by decide))) hS.2.2.2.1 rfl rfl m_ml_X10_96 m_im_X10_refuseLong m_se_X10_X10_refuseLong_X10_refuseLong m_in_X10 m_co_X10_refuseLong (by decide +kernel) ⟨Nat.le_of_ble_eq_true rfl, Nat.le_of_ble_eq_true rfl⟩ ⟨by first | exact Nat.le_of_ble_eq_true rfl | (show _ ≤ 2; omega), by first | exact Nat.le_of_ble_eq_true rfl | (show _ ≤ 160; omega)⟩ rfl hl.1 rfl (Nat.le_of_ble_eq_true rfl) dX10_told_212 hK hI (fun r G1 H1 L1 hp hI => ?_)
              obtain ⟨v, rfl, ev, hS⟩ := hp
              subst ev
              refine W.eq (g2 := F0 mI 215 ls [.long (-9223372036854775708 + ((-10 - 5) : Int32).toInt64)]) rfl ?_
              have e9 : sp_told A s 4 = ((-9223372036854775708 + ((-10 - 5) : Int32).toInt64), (rfs A 5)) := by
                simp only [told_4, rfi, rfj, wHv, wRw, wSl, h_1, c_3, c_4, h_5, h_25, eqb_00, eqb_10, eqb_20, eqb_30, eqb_50, eqb_11, eqb_21, reduceIte, Bool.false_eq_true, not_true_eq_false, not_false_eq_true, ite_self]
              exact g_lret hx hb hr hlocks hI ⟨_, rfl, by rw [e9], aa, nn, by omega, by rw [e9]; exact hS⟩ dX10_told_215 (by omega) (by omega)
          · have _ := 0
            refine lv_iload_n hx hb dX10_told_38 rfl (lv_at hl 3 rfl) ?_
            refine lv_tableIn (off := 177) (tgt := 216) hx hb dX10_told_39 (by decide) (by decide) (by decide) (by decide) ?_
            refine lv_aload_n hx hb dX10_told_216 rfl (lv_at hl 0 rfl) ?_
            rcases btf (fit A (A 0 (ix s)) 5 5) with h_29 | h_29
            · have _ := 0
              refine g_inst (index := 153) hx hb hts hown hK hI 0 (hS.at hn t_8 h_5) (cix_in _) (by decide) m_cl_X10_153 dX10_told_217 ?_
              refine W.eq (g2 := F0 mI 220 ls [.int 1]) (by rw [(hS.gs hn t_8 h_5 0 (by decide) h_29)]; rfl) ?_
              refine lv_if_eq (tgt := 238) hx hb dX10_told_220 (by decide) (fun c_30 => absurd c_30 (by decide)) (fun _ => ?_)
              refine lv_aload_n hx hb dX10_told_223 rfl (lv_at hl 0 rfl) ?_
              refine g_cast (index := 153) hx hb hts hown hK hI 0 (hS.at hn t_8 h_5) (cix_in _) (by decide) (hS.gs hn t_8 h_5 0 (by decide) h_29) m_cl_X10_153 dX10_told_224 ?_
              refine lv_astore (lv' := [(4, .ref (aa (4 * ix (A 0 (ix s))))), (3, .ref (aa (4 * ix (A 0 (ix s))))), (0, .ref (aa 0)), (1, .int s), (2, .int 5)]) hx hb dX10_told_227 hl (by decide) rfl (fun ls hl => ?_)
              refine lv_aload hx hb dX10_told_229 (lv_at hl 0 rfl) ?_
              have h_31 := fit_pt (A := A) h_5 h_29
              refine g_get (index := 152) (ci := 0) hx hb hts inlX0 hown hK hI (((hS.at hn t_8 h_5)).trans (congrArg some (thc_5 h_31))) rfl 1 (by decide) m_fl_X10_152 (fun _ h9 => h9) rfl dX10_told_231 ?_
              refine lv_i2l hx hb dX10_told_234 rfl ?_
              refine lv_goto (tgt := 243) hx hb dX10_told_235 (by decide) ?_
              have e9 : sp_told A s 5 = ((((A 3 (ix (A 0 (ix s)))) : Int32).toInt64), A) := by
                simp only [told_5, rfi, rfj, wHv, wRw, wSl, h_1, c_3, c_4, h_5, h_29, eqb_00, eqb_10, eqb_20, eqb_30, eqb_50, eqb_11, eqb_21, reduceIte, Bool.false_eq_true, not_true_eq_false, not_false_eq_true, ite_self]
              exact g_lret hx hb hr hlocks hI ⟨_, rfl, by rw [e9], aa, nn, by omega, by rw [e9]; exact hS⟩ dX10_told_243 (by omega) (by omega)
            · have _ := 0
              refine g_inst (index := 153) hx hb hts hown hK hI 0 (hS.at hn t_8 h_5) (cix_in _) (by decide) m_cl_X10_153 dX10_told_217 ?_
              refine W.eq (g2 := F0 mI 220 ls [.int 0]) (by rw [(hS.gs hn t_8 h_5 0 (by decide) h_29)]; rfl) ?_
              refine lv_if_eq (tgt := 238) hx hb dX10_told_220 (by decide) (fun _ => ?_) (fun c_32 => absurd c_32 (by decide))
              refine lv_aload_n hx hb dX10_told_238 rfl (lv_at hl 1 rfl) ?_
              refine lv_iconst (v := 5) hx hb dX10_told_239 (by decide) ?_
              refine g_callV (own := RX10) (index := 96) (n := 1) hx hb hml hown hts (c_X10_refuseLong l E b0 _ _ aa _ nn hS hn 5 (vp_in_iff.mpr (by decide))) hS.2.2.2.1 rfl rfl m_ml_X10_96 m_im_X10_refuseLong m_se_X10_X10_refuseLong_X10_refuseLong m_in_X10 m_co_X10_refuseLong (by decide +kernel) ⟨Nat.le_of_ble_eq_true rfl, Nat.le_of_ble_eq_true rfl⟩ ⟨by first | exact Nat.le_of_ble_eq_true rfl | (show _ ≤ 2; omega), by first | exact Nat.le_of_ble_eq_true rfl | (show _ ≤ 160; omega)⟩ rfl hl.1 rfl (Nat.le_of_ble_eq_true rfl) dX10_told_240 hK hI (fun r G1 H1 L1 hp hI => ?_)
              obtain ⟨v, rfl, ev, hS⟩ := hp
              subst ev
              refine W.eq (g2 := F0 mI 243 ls [.long (-9223372036854775708 + ((-10 - 5) : Int32).toInt64)]) rfl ?_
              have e9 : sp_told A s 5 = ((-9223372036854775708 + ((-10 - 5) : Int32).toInt64), (rfs A 5)) := by
                simp only [told_5, rfi, rfj, wHv, wRw, wSl, h_1, c_3, c_4, h_5, h_29, eqb_00, eqb_10, eqb_20, eqb_30, eqb_50, eqb_11, eqb_21, reduceIte, Bool.false_eq_true, not_true_eq_false, not_false_eq_true, ite_self]
              exact g_lret hx hb hr hlocks hI ⟨_, rfl, by rw [e9], aa, nn, by omega, by rw [e9]; exact hS⟩ dX10_told_243 (by omega) (by omega)
          · have _ := 0
            refine lv_iload_n hx hb dX10_told_38 rfl (lv_at hl 3 rfl) ?_
            refine lv_tableOut (tgt := 244) hx hb dX10_told_39 (by decide) (by decide) ?_
            refine lv_aload_n hx hb dX10_told_244 rfl (lv_at hl 0 rfl) ?_
            rcases btf (fit A (A 0 (ix s)) 6 7) with h_33 | h_33
            · have _ := 0
              refine g_inst (index := 35) hx hb hts hown hK hI 5 (hS.at hn t_8 h_5) (cix_in _) (by decide) m_cl_X10_35 dX10_told_245 ?_
              refine W.eq (g2 := F0 mI 248 ls [.int 1]) (by rw [(hS.gs hn t_8 h_5 5 (by decide) h_33)]; rfl) ?_
              refine lv_if_eq (tgt := 267) hx hb dX10_told_248 (by decide) (fun c_34 => absurd c_34 (by decide)) (fun _ => ?_)
              refine lv_aload_n hx hb dX10_told_251 rfl (lv_at hl 0 rfl) ?_
              refine g_cast (index := 35) hx hb hts hown hK hI 5 (hS.at hn t_8 h_5) (cix_in _) (by decide) (hS.gs hn t_8 h_5 5 (by decide) h_33) m_cl_X10_35 dX10_told_252 ?_
              refine lv_astore (lv' := [(4, .ref (aa (4 * ix (A 0 (ix s))))), (3, .ref (aa (4 * ix (A 0 (ix s))))), (0, .ref (aa 0)), (1, .int s), (2, .int 6)]) hx hb dX10_told_255 hl (by decide) rfl (fun ls hl => ?_)
              refine lv_aload_n hx hb dX10_told_257 rfl (lv_at hl 2 rfl) ?_
              refine lv_aload hx hb dX10_told_258 (lv_at hl 0 rfl) ?_
              refine lv_iload_n hx hb dX10_told_260 rfl (lv_at hl 4 rfl) ?_
              refine g_callV (own := RX10) (index := 163) (n := 2) hx hb hml hown hts (c_X10_lengthTold_6 l E b0 _ _ aa _ nn hS hn (A 0 (ix s)) t_8 h_5 h_33) hS.2.2.2.1 rfl rfl m_ml_X10_163 m_im_X10_lengthTold m_se_X10_X10_lengthTold_X10_lengthTold m_in_X10 m_co_X10_lengthTold (by decide +kernel) ⟨Nat.le_of_ble_eq_true rfl, Nat.le_of_ble_eq_true rfl⟩ ⟨by first | exact Nat.le_of_ble_eq_true rfl | (show _ ≤ 2; omega), by first | exact Nat.le_of_ble_eq_true rfl | (show _ ≤ 160; omega)⟩ rfl hl.1 rfl (Nat.le_of_ble_eq_true rfl) dX10_told_261 hK hI (fun r G1 H1 L1 hp hI => ?_)
              obtain ⟨v, rfl, ev, hS⟩ := hp
              subst ev
              refine W.eq (g2 := F0 mI 264 ls [.long ((lt6 A 5 (ix (A 0 (ix s)))).1)]) rfl ?_
              refine lv_goto (tgt := 272) hx hb dX10_told_264 (by decide) ?_
              have e9 : sp_told A s 6 = ((lt6 A 5 (ix (A 0 (ix s)))).1, (lt6 A 5 (ix (A 0 (ix s)))).2) := by
                simp only [told_6, rfi, rfj, wHv, wRw, wSl, h_1, c_3, c_4, h_5, h_33, eqb_00, eqb_10, eqb_20, eqb_30, eqb_50, eqb_11, eqb_21, reduceIte, Bool.false_eq_true, not_true_eq_false, not_false_eq_true, ite_self]
              exact g_lret hx hb hr hlocks hI ⟨_, rfl, by rw [e9], aa, nn, by omega, by rw [e9]; exact hS⟩ dX10_told_272 (by omega) (by omega)
            · have _ := 0
              refine g_inst (index := 35) hx hb hts hown hK hI 5 (hS.at hn t_8 h_5) (cix_in _) (by decide) m_cl_X10_35 dX10_told_245 ?_
              refine W.eq (g2 := F0 mI 248 ls [.int 0]) (by rw [(hS.gs hn t_8 h_5 5 (by decide) h_33)]; rfl) ?_
              refine lv_if_eq (tgt := 267) hx hb dX10_told_248 (by decide) (fun _ => ?_) (fun c_35 => absurd c_35 (by decide))
              refine lv_aload_n hx hb dX10_told_267 rfl (lv_at hl 1 rfl) ?_
              refine lv_iconst (v := 5) hx hb dX10_told_268 (by decide) ?_
              refine g_callV (own := RX10) (index := 96) (n := 1) hx hb hml hown hts (c_X10_refuseLong l E b0 _ _ aa _ nn hS hn 5 (vp_in_iff.mpr (by decide))) hS.2.2.2.1 rfl rfl m_ml_X10_96 m_im_X10_refuseLong m_se_X10_X10_refuseLong_X10_refuseLong m_in_X10 m_co_X10_refuseLong (by decide +kernel) ⟨Nat.le_of_ble_eq_true rfl, Nat.le_of_ble_eq_true rfl⟩ ⟨by first | exact Nat.le_of_ble_eq_true rfl | (show _ ≤ 2; omega), by first | exact Nat.le_of_ble_eq_true rfl | (show _ ≤ 160; omega)⟩ rfl hl.1 rfl (Nat.le_of_ble_eq_true rfl) dX10_told_269 hK hI (fun r G1 H1 L1 hp hI => ?_)
              obtain ⟨v, rfl, ev, hS⟩ := hp
              subst ev
              refine W.eq (g2 := F0 mI 272 ls [.long (-9223372036854775708 + ((-10 - 5) : Int32).toInt64)]) rfl ?_
              have e9 : sp_told A s 6 = ((-9223372036854775708 + ((-10 - 5) : Int32).toInt64), (rfs A 5)) := by
                simp only [told_6, rfi, rfj, wHv, wRw, wSl, h_1, c_3, c_4, h_5, h_33, eqb_00, eqb_10, eqb_20, eqb_30, eqb_50, eqb_11, eqb_21, reduceIte, Bool.false_eq_true, not_true_eq_false, not_false_eq_true, ite_self]
              exact g_lret hx hb hr hlocks hI ⟨_, rfl, by rw [e9], aa, nn, by omega, by rw [e9]; exact hS⟩ dX10_told_272 (by omega) (by omega)
          · have _ := 0
            refine lv_iload_n hx hb dX10_told_38 rfl (lv_at hl 3 rfl) ?_
            refine lv_tableOut (tgt := 244) hx hb dX10_told_39 (by decide) (by decide) ?_
            refine lv_aload_n hx hb dX10_told_244 rfl (lv_at hl 0 rfl) ?_
            rcases btf (fit A (A 0 (ix s)) 6 7) with h_36 | h_36
            · have _ := 0
              refine g_inst (index := 35) hx hb hts hown hK hI 5 (hS.at hn t_8 h_5) (cix_in _) (by decide) m_cl_X10_35 dX10_told_245 ?_
              refine W.eq (g2 := F0 mI 248 ls [.int 1]) (by rw [(hS.gs hn t_8 h_5 5 (by decide) h_36)]; rfl) ?_
              refine lv_if_eq (tgt := 267) hx hb dX10_told_248 (by decide) (fun c_37 => absurd c_37 (by decide)) (fun _ => ?_)
              refine lv_aload_n hx hb dX10_told_251 rfl (lv_at hl 0 rfl) ?_
              refine g_cast (index := 35) hx hb hts hown hK hI 5 (hS.at hn t_8 h_5) (cix_in _) (by decide) (hS.gs hn t_8 h_5 5 (by decide) h_36) m_cl_X10_35 dX10_told_252 ?_
              refine lv_astore (lv' := [(4, .ref (aa (4 * ix (A 0 (ix s))))), (3, .ref (aa (4 * ix (A 0 (ix s))))), (0, .ref (aa 0)), (1, .int s), (2, .int 7)]) hx hb dX10_told_255 hl (by decide) rfl (fun ls hl => ?_)
              refine lv_aload_n hx hb dX10_told_257 rfl (lv_at hl 2 rfl) ?_
              refine lv_aload hx hb dX10_told_258 (lv_at hl 0 rfl) ?_
              refine lv_iload_n hx hb dX10_told_260 rfl (lv_at hl 4 rfl) ?_
              refine g_callV (own := RX10) (index := 163) (n := 2) hx hb hml hown hts (c_X10_lengthTold_7 l E b0 _ _ aa _ nn hS hn (A 0 (ix s)) t_8 h_5 h_36) hS.2.2.2.1 rfl rfl m_ml_X10_163 m_im_X10_lengthTold m_se_X10_X10_lengthTold_X10_lengthTold m_in_X10 m_co_X10_lengthTold (by decide +kernel) ⟨Nat.le_of_ble_eq_true rfl, Nat.le_of_ble_eq_true rfl⟩ ⟨by first | exact Nat.le_of_ble_eq_true rfl | (show _ ≤ 2; omega), by first | exact Nat.le_of_ble_eq_true rfl | (show _ ≤ 160; omega)⟩ rfl hl.1 rfl (Nat.le_of_ble_eq_true rfl) dX10_told_261 hK hI (fun r G1 H1 L1 hp hI => ?_)
              obtain ⟨v, rfl, ev, hS⟩ := hp
              subst ev
              refine W.eq (g2 := F0 mI 264 ls [.long ((lt6 A 7 (ix (A 0 (ix s)))).1)]) rfl ?_
              refine lv_goto (tgt := 272) hx hb dX10_told_264 (by decide) ?_
              have e9 : sp_told A s 7 = ((lt6 A 7 (ix (A 0 (ix s)))).1, (lt6 A 7 (ix (A 0 (ix s)))).2) := by
                simp only [told_7, rfi, rfj, wHv, wRw, wSl, h_1, c_3, c_4, h_5, h_36, eqb_00, eqb_10, eqb_20, eqb_30, eqb_50, eqb_11, eqb_21, reduceIte, Bool.false_eq_true, not_true_eq_false, not_false_eq_true, ite_self]
              exact g_lret hx hb hr hlocks hI ⟨_, rfl, by rw [e9], aa, nn, by omega, by rw [e9]; exact hS⟩ dX10_told_272 (by omega) (by omega)
            · have _ := 0
              refine g_inst (index := 35) hx hb hts hown hK hI 5 (hS.at hn t_8 h_5) (cix_in _) (by decide) m_cl_X10_35 dX10_told_245 ?_
              refine W.eq (g2 := F0 mI 248 ls [.int 0]) (by rw [(hS.gs hn t_8 h_5 5 (by decide) h_36)]; rfl) ?_
              refine lv_if_eq (tgt := 267) hx hb dX10_told_248 (by decide) (fun _ => ?_) (fun c_38 => absurd c_38 (by decide))
              refine lv_aload_n hx hb dX10_told_267 rfl (lv_at hl 1 rfl) ?_
              refine lv_iconst (v := 5) hx hb dX10_told_268 (by decide) ?_
              refine g_callV (own := RX10) (index := 96) (n := 1) hx hb hml hown hts (c_X10_refuseLong l E b0 _ _ aa _ nn hS hn 5 (vp_in_iff.mpr (by decide))) hS.2.2.2.1 rfl rfl m_ml_X10_96 m_im_X10_refuseLong m_se_X10_X10_refuseLong_X10_refuseLong m_in_X10 m_co_X10_refuseLong (by decide +kernel) ⟨Nat.le_of_ble_eq_true rfl, Nat.le_of_ble_eq_true rfl⟩ ⟨by first | exact Nat.le_of_ble_eq_true rfl | (show _ ≤ 2; omega), by first | exact Nat.le_of_ble_eq_true rfl | (show _ ≤ 160; omega)⟩ rfl hl.1 rfl (Nat.le_of_ble_eq_true rfl) dX10_told_269 hK hI (fun r G1 H1 L1 hp hI => ?_)
              obtain ⟨v, rfl, ev, hS⟩ := hp
              subst ev
              refine W.eq (g2 := F0 mI 272 ls [.long (-9223372036854775708 + ((-10 - 5) : Int32).toInt64)]) rfl ?_
              have e9 : sp_told A s 7 = ((-9223372036854775708 + ((-10 - 5) : Int32).toInt64), (rfs A 5)) := by
                simp only [told_7, rfi, rfj, wHv, wRw, wSl, h_1, c_3, c_4, h_5, h_36, eqb_00, eqb_10, eqb_20, eqb_30, eqb_50, eqb_11, eqb_21, reduceIte, Bool.false_eq_true, not_true_eq_false, not_false_eq_true, ite_self]
              exact g_lret hx hb hr hlocks hI ⟨_, rfl, by rw [e9], aa, nn, by omega, by rw [e9]; exact hS⟩ dX10_told_272 (by omega) (by omega)
      · have c_4 := Int32.not_le.mp c_4
        refine lv_ldc2 hx hb hown (hts _ m_kl_X10_94) dX10_told_17 ?_
        have e9 : sp_told A s w = ((-9223372036854775808), A) := by
          simp only [sp_told, inb, decide_true, decide_false, Bool.not_false, Bool.not_true, Bool.and_true, Bool.true_and, Bool.false_and, Bool.and_false, Bool.and_self, rfi, rfj, wHv, wRw, wSl, h_1, c_3, c_4, eqb_00, eqb_10, eqb_20, eqb_30, eqb_50, eqb_11, eqb_21, reduceIte, Bool.false_eq_true, not_true_eq_false, not_false_eq_true, ite_self]
        exact g_lret hx hb hr hlocks hI ⟨_, rfl, by rw [e9], aa, nn, by omega, by rw [e9]; exact hS⟩ dX10_told_20 (by omega) (by omega)
  · rw [hGe] at hI
    refine W.eq (g2 := F0 mI 4 ls [.int 0]) rfl ?_
    refine lv_if_eq (tgt := 17) hx hb dX10_told_4 (by decide) (fun _ => ?_) (fun c_39 => absurd c_39 (by decide))
    refine lv_ldc2 hx hb hown (hts _ m_kl_X10_94) dX10_told_17 ?_
    have e9 : sp_told A s w = ((-9223372036854775808), A) := by
      simp only [sp_told, inb, decide_true, decide_false, Bool.not_false, Bool.not_true, Bool.and_true, Bool.true_and, Bool.false_and, Bool.and_false, Bool.and_self, rfi, rfj, wHv, wRw, wSl, h_1, eqb_00, eqb_10, eqb_20, eqb_30, eqb_50, eqb_11, eqb_21, reduceIte, Bool.false_eq_true, not_true_eq_false, not_false_eq_true, ite_self]
    exact g_lret hx hb hr hlocks hI ⟨_, rfl, by rw [e9], aa, nn, by omega, by rw [e9]; exact hS⟩ dX10_told_20 (by omega) (by omega)
