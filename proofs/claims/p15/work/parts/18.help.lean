theorem inb_n {i n : Int32} (h : ¬ n < 0) : inb i 0 (n - 1) = (!decide (i < 0) && decide (i < n)) := by
  obtain ⟨j, hj, rfl⟩ := nI_of h
  have h0 : (0 : Int32).toInt = 0 := by decide
  rw [Bool.eq_iff_iff]
  simp only [inb, Bool.and_eq_true, Bool.not_eq_true', decide_eq_false_iff_not, decide_eq_true_eq, Int32.lt_iff_toInt_lt, nI_toInt hj, h0]
  cases j with
  | zero =>
    have e1 : (nI 0 - 1).toInt = -1 := by decide
    rw [e1]
    omega
  | succ j =>
    rw [nI_pred, nI_toInt (by omega)]
    omega
theorem rfjk {k : Int32} (h : vp_in k 7) : -9223372036854775718 - k.toInt64 = -9223372036854775708 + (-10 - k).toInt64 := by
  obtain ⟨j, hj, rfl⟩ := vp_in_of h (by decide)
  have : j = 0 ∨ j = 1 ∨ j = 2 ∨ j = 3 ∨ j = 4 ∨ j = 5 ∨ j = 6 := by omega
  rcases this with rfl | rfl | rfl | rfl | rfl | rfl | rfl <;> decide
set_option maxHeartbeats 4000000 in
set_option maxRecDepth 100000 in
theorem c_X10_isIndex (l : Launch) (E : gE) (b0 : Nat) (G : gG) (i n : Int32) (hn : ¬ n < 0) : gM l yX10_isIndex cX10_isIndex 2 (some .boolean) 0 0 0 E b0 G [.int i, .int n] (pI (fun v9 G1 => G1 = G ∧ (inb i 0 (n - 1) = true ∧ v9 = 1 ∨ inb i 0 (n - 1) = false ∧ v9 = 0))) := by
  refine gM.of (by decide +kernel) (Nat.le_of_ble_eq_true rfl) ?_
  intro pP eP sP mI bP meth cP ls hx hb hr hml hown hlocks hnm hts hK hI hl
  have hl : lv_has ls 2 [(0, .int i), (1, .int n)] := hl
  have hown : sP.vm.findClass RX10 = some mI.cls := hown
  refine lv_iload_n hx hb dX10_isIndex_0 rfl (lv_at hl 0 rfl) ?_
  refine lv_if_lt (tgt := 13) hx hb dX10_isIndex_1 (by decide) (fun c_1 => ?_) (fun c_1 => ?_)
  · refine lv_iconst (v := 0) hx hb dX10_isIndex_13 (by decide) ?_
    exact g_zret hx hb hr hlocks hI rfl ⟨_, rfl, rfl, Or.inr ⟨by rw [inb_n hn]; simp [c_1], rfl⟩⟩ dX10_isIndex_14 (Nat.le_of_ble_eq_true rfl) (Nat.le_of_ble_eq_true rfl)
  · refine lv_iload_n hx hb dX10_isIndex_4 rfl (lv_at hl 0 rfl) ?_
    refine lv_iload_n hx hb dX10_isIndex_5 rfl (lv_at hl 1 rfl) ?_
    refine lv_icmp_ge (tgt := 13) hx hb dX10_isIndex_6 (by decide) (fun c_2 => ?_) (fun c_2 => ?_)
    · have c_2 := Int32.not_lt.mpr c_2
      refine lv_iconst (v := 0) hx hb dX10_isIndex_13 (by decide) ?_
      exact g_zret hx hb hr hlocks hI rfl ⟨_, rfl, rfl, Or.inr ⟨by rw [inb_n hn]; simp [c_1, c_2], rfl⟩⟩ dX10_isIndex_14 (Nat.le_of_ble_eq_true rfl) (Nat.le_of_ble_eq_true rfl)
    · have c_2 := Int32.not_le.mp c_2
      refine lv_iconst (v := 1) hx hb dX10_isIndex_9 (by decide) ?_
      refine lv_goto (tgt := 14) hx hb dX10_isIndex_10 (by decide) ?_
      exact g_zret hx hb hr hlocks hI rfl ⟨_, rfl, rfl, Or.inl ⟨by rw [inb_n hn]; simp [c_1, c_2], rfl⟩⟩ dX10_isIndex_14 (Nat.le_of_ble_eq_true rfl) (Nat.le_of_ble_eq_true rfl)
set_option maxHeartbeats 4000000 in
set_option maxRecDepth 100000 in
theorem c_X10_isShelf (l : Launch) (E : gE) (b0 : Nat) (G : gG) (s0 : Int32) : gM l yX10_isShelf cX10_isShelf 1 (some .boolean) 1 0 0 E b0 G [.int s0] (pI (fun v9 G1 => G1 = G ∧ (isSh s0 = true ∧ v9 = 1 ∨ isSh s0 = false ∧ v9 = 0))) := by
  refine gM.of (by decide +kernel) (Nat.le_of_ble_eq_true rfl) ?_
  intro pP eP sP mI bP meth cP ls hx hb hr hml hown hlocks hnm hts hK hI hl
  have hl : lv_has ls 1 [(0, .int s0)] := hl
  have hown : sP.vm.findClass RX10 = some mI.cls := hown
  refine lv_iload_n hx hb dX10_isShelf_0 rfl (lv_at hl 0 rfl) ?_
  refine lv_bipush (v := 16) hx hb dX10_isShelf_1 (by decide) ?_
  refine g_callS (own := RX10) (index := 82) (n := 2) hx hb hml hown hts (c_X10_isIndex l E b0 _ s0 16 (by decide)) m_ml_X10_82 m_st_X10_isIndex m_in_X10 m_co_X10_isIndex (by decide +kernel) ⟨Nat.le_of_ble_eq_true rfl, Nat.le_of_ble_eq_true rfl⟩ ⟨by first | exact Nat.le_of_ble_eq_true rfl | (show _ ≤ 0; omega), by first | exact Nat.le_of_ble_eq_true rfl | (show _ ≤ 0; omega)⟩ rfl hl.1 rfl (Nat.le_of_ble_eq_true rfl) dX10_isShelf_3 hK hI (fun r G1 H1 L1 hp hI => ?_)
  obtain ⟨v, rfl, hG, ⟨h, rfl⟩ | ⟨h, rfl⟩⟩ := hp
  · rw [hG] at hI
    refine W.eq (g2 := F0 mI 6 ls [.int 1]) rfl ?_
    exact g_zret hx hb hr hlocks hI rfl ⟨_, rfl, rfl, Or.inl ⟨by rw [show (16 : Int32) - 1 = 15 by decide] at h; exact h, rfl⟩⟩ dX10_isShelf_6 (Nat.le_of_ble_eq_true rfl) (Nat.le_of_ble_eq_true rfl)
  · rw [hG] at hI
    refine W.eq (g2 := F0 mI 6 ls [.int 0]) rfl ?_
    exact g_zret hx hb hr hlocks hI rfl ⟨_, rfl, rfl, Or.inr ⟨by rw [show (16 : Int32) - 1 = 15 by decide] at h; exact h, rfl⟩⟩ dX10_isShelf_6 (Nat.le_of_ble_eq_true rfl) (Nat.le_of_ble_eq_true rfl)
set_option maxHeartbeats 4000000 in
set_option maxRecDepth 100000 in
theorem c_X10_oneIfThing_n (l : Launch) (E : gE) (b0 : Nat) (G : gG) : gM l yX10_oneIfThing cX10_oneIfThing 1 (some .int) 0 0 0 E b0 G [.null] (pI (fun v9 G1 => v9 = 0 ∧ G1 = G)) := by
  refine gM.of (by decide +kernel) (Nat.le_of_ble_eq_true rfl) ?_
  intro pP eP sP mI bP meth cP ls hx hb hr hml hown hlocks hnm hts hK hI hl
  have hl : lv_has ls 1 [(0, .null)] := hl
  have hown : sP.vm.findClass RX10 = some mI.cls := hown
  refine lv_aload_nN hx hb dX10_oneIfThing_0 rfl (lv_at hl 0 rfl) ?_
  refine lv_ifnonnullN hx hb dX10_oneIfThing_1 ?_
  refine lv_iconst (v := 0) hx hb dX10_oneIfThing_4 (by decide) ?_
  refine lv_goto (tgt := 9) hx hb dX10_oneIfThing_5 (by decide) ?_
  exact g_iret hx hb hr hlocks hI ⟨_, rfl, rfl, rfl⟩ dX10_oneIfThing_9 (Nat.le_of_ble_eq_true rfl) (Nat.le_of_ble_eq_true rfl)
set_option maxHeartbeats 4000000 in
set_option maxRecDepth 100000 in
theorem c_X10_oneIfThing_r (l : Launch) (E : gE) (b0 : Nat) (G : gG) (a : Nat) : gM l yX10_oneIfThing cX10_oneIfThing 1 (some .int) 0 0 0 E b0 G [.ref a] (pI (fun v9 G1 => v9 = 1 ∧ G1 = G)) := by
  refine gM.of (by decide +kernel) (Nat.le_of_ble_eq_true rfl) ?_
  intro pP eP sP mI bP meth cP ls hx hb hr hml hown hlocks hnm hts hK hI hl
  have hl : lv_has ls 1 [(0, .ref a)] := hl
  have hown : sP.vm.findClass RX10 = some mI.cls := hown
  refine lv_aload_n hx hb dX10_oneIfThing_0 rfl (lv_at hl 0 rfl) ?_
  refine lv_ifnonnull (tgt := 8) hx hb dX10_oneIfThing_1 (by decide) ?_
  refine lv_iconst (v := 1) hx hb dX10_oneIfThing_8 (by decide) ?_
  exact g_iret hx hb hr hlocks hI ⟨_, rfl, rfl, rfl⟩ dX10_oneIfThing_9 (Nat.le_of_ble_eq_true rfl) (Nat.le_of_ble_eq_true rfl)
set_option maxHeartbeats 4000000 in
set_option maxRecDepth 100000 in
theorem c_X10_asHive_n (l : Launch) (E : gE) (b0 : Nat) (G : gG) : gM l yX10_asHive cX10_asHive 2 (some (.object "HiveYard$Hive")) 0 0 0 E b0 G [.null] (pQ (fun v9 G1 => v9 = none ∧ G1 = G)) := by
  refine gM.of (by decide +kernel) (Nat.le_of_ble_eq_true rfl) ?_
  intro pP eP sP mI bP meth cP ls hx hb hr hml hown hlocks hnm hts hK hI hl
  have hl : lv_has ls 2 [(0, .null)] := hl
  have hown : sP.vm.findClass RX10 = some mI.cls := hown
  refine lv_aload_nN hx hb dX10_asHive_0 rfl (lv_at hl 0 rfl) ?_
  refine lv_instN hx hb dX10_asHive_1 ?_
  refine lv_if_eq (tgt := 16) hx hb dX10_asHive_4 (by decide) (fun _ => ?_) (fun c_1 => absurd c_1 (by decide))
  refine lv_anull hx hb dX10_asHive_16 ?_
  exact g_aret (o := none) hx hb hr hlocks hI ⟨_, rfl, rfl, rfl⟩ dX10_asHive_17 (Nat.le_of_ble_eq_true rfl) (Nat.le_of_ble_eq_true rfl)
set_option maxHeartbeats 4000000 in
set_option maxRecDepth 100000 in
theorem c_X10_asHive_y (l : Launch) (E : gE) (b0 : Nat) (G : gG) (a ci : Nat) (fs : List Value) (hG : G a = some (.inr (ci, fs))) (hci : ci ∈ gth) (hs : gsub ci 5 = true) : gM l yX10_asHive cX10_asHive 2 (some (.object "HiveYard$Hive")) 0 0 0 E b0 G [.ref a] (pQ (fun v9 G1 => v9 = some a ∧ G1 = G)) := by
  refine gM.of (by decide +kernel) (Nat.le_of_ble_eq_true rfl) ?_
  intro pP eP sP mI bP meth cP ls hx hb hr hml hown hlocks hnm hts hK hI hl
  have hl : lv_has ls 2 [(0, .ref a)] := hl
  have hown : sP.vm.findClass RX10 = some mI.cls := hown
  refine lv_aload_n hx hb dX10_asHive_0 rfl (lv_at hl 0 rfl) ?_
  refine g_inst (index := 35) hx hb hts hown hK hI 5 hG hci (by decide) m_cl_X10_35 dX10_asHive_1 ?_
  refine W.eq (g2 := F0 mI 4 ls [.int 1]) (by rw [hs]; rfl) ?_
  refine lv_if_eq (tgt := 16) hx hb dX10_asHive_4 (by decide) (fun c_1 => absurd c_1 (by decide)) (fun _ => ?_)
  refine lv_aload_n hx hb dX10_asHive_7 rfl (lv_at hl 0 rfl) ?_
  refine g_cast (index := 35) hx hb hts hown hK hI 5 hG hci (by decide) hs m_cl_X10_35 dX10_asHive_8 ?_
  refine lv_astore_n (lv' := [(1, .ref a), (0, .ref a)]) hx hb dX10_asHive_11 rfl hl (by decide) rfl (fun ls hl => ?_)
  refine lv_aload_n hx hb dX10_asHive_12 rfl (lv_at hl 0 rfl) ?_
  refine lv_goto (tgt := 17) hx hb dX10_asHive_13 (by decide) ?_
  exact g_aret (o := some a) hx hb hr hlocks hI ⟨_, rfl, rfl, rfl⟩ dX10_asHive_17 (Nat.le_of_ble_eq_true rfl) (Nat.le_of_ble_eq_true rfl)
set_option maxHeartbeats 4000000 in
set_option maxRecDepth 100000 in
theorem c_X10_asHive_f (l : Launch) (E : gE) (b0 : Nat) (G : gG) (a ci : Nat) (fs : List Value) (hG : G a = some (.inr (ci, fs))) (hci : ci ∈ gth) (hs : gsub ci 5 = false) : gM l yX10_asHive cX10_asHive 2 (some (.object "HiveYard$Hive")) 0 0 0 E b0 G [.ref a] (pQ (fun v9 G1 => v9 = none ∧ G1 = G)) := by
  refine gM.of (by decide +kernel) (Nat.le_of_ble_eq_true rfl) ?_
  intro pP eP sP mI bP meth cP ls hx hb hr hml hown hlocks hnm hts hK hI hl
  have hl : lv_has ls 2 [(0, .ref a)] := hl
  have hown : sP.vm.findClass RX10 = some mI.cls := hown
  refine lv_aload_n hx hb dX10_asHive_0 rfl (lv_at hl 0 rfl) ?_
  refine g_inst (index := 35) hx hb hts hown hK hI 5 hG hci (by decide) m_cl_X10_35 dX10_asHive_1 ?_
  refine W.eq (g2 := F0 mI 4 ls [.int 0]) (by rw [hs]; rfl) ?_
  refine lv_if_eq (tgt := 16) hx hb dX10_asHive_4 (by decide) (fun _ => ?_) (fun c_1 => absurd c_1 (by decide))
  refine lv_anull hx hb dX10_asHive_16 ?_
  exact g_aret (o := none) hx hb hr hlocks hI ⟨_, rfl, rfl, rfl⟩ dX10_asHive_17 (Nat.le_of_ble_eq_true rfl) (Nat.le_of_ble_eq_true rfl)
set_option maxHeartbeats 4000000 in
set_option maxRecDepth 100000 in
theorem c_X10_asFrame_n (l : Launch) (E : gE) (b0 : Nat) (G : gG) : gM l yX10_asFrame cX10_asFrame 2 (some (.object "HiveYard$Frame")) 0 0 0 E b0 G [.null] (pQ (fun v9 G1 => v9 = none ∧ G1 = G)) := by
  refine gM.of (by decide +kernel) (Nat.le_of_ble_eq_true rfl) ?_
  intro pP eP sP mI bP meth cP ls hx hb hr hml hown hlocks hnm hts hK hI hl
  have hl : lv_has ls 2 [(0, .null)] := hl
  have hown : sP.vm.findClass RX10 = some mI.cls := hown
  refine lv_aload_nN hx hb dX10_asFrame_0 rfl (lv_at hl 0 rfl) ?_
  refine lv_instN hx hb dX10_asFrame_1 ?_
  refine lv_if_eq (tgt := 16) hx hb dX10_asFrame_4 (by decide) (fun _ => ?_) (fun c_1 => absurd c_1 (by decide))
  refine lv_anull hx hb dX10_asFrame_16 ?_
  exact g_aret (o := none) hx hb hr hlocks hI ⟨_, rfl, rfl, rfl⟩ dX10_asFrame_17 (Nat.le_of_ble_eq_true rfl) (Nat.le_of_ble_eq_true rfl)
set_option maxHeartbeats 4000000 in
set_option maxRecDepth 100000 in
theorem c_X10_asFrame_y (l : Launch) (E : gE) (b0 : Nat) (G : gG) (a ci : Nat) (fs : List Value) (hG : G a = some (.inr (ci, fs))) (hci : ci ∈ gth) (hs : gsub ci 4 = true) : gM l yX10_asFrame cX10_asFrame 2 (some (.object "HiveYard$Frame")) 0 0 0 E b0 G [.ref a] (pQ (fun v9 G1 => v9 = some a ∧ G1 = G)) := by
  refine gM.of (by decide +kernel) (Nat.le_of_ble_eq_true rfl) ?_
  intro pP eP sP mI bP meth cP ls hx hb hr hml hown hlocks hnm hts hK hI hl
  have hl : lv_has ls 2 [(0, .ref a)] := hl
  have hown : sP.vm.findClass RX10 = some mI.cls := hown
  refine lv_aload_n hx hb dX10_asFrame_0 rfl (lv_at hl 0 rfl) ?_
  refine g_inst (index := 37) hx hb hts hown hK hI 4 hG hci (by decide) m_cl_X10_37 dX10_asFrame_1 ?_
  refine W.eq (g2 := F0 mI 4 ls [.int 1]) (by rw [hs]; rfl) ?_
  refine lv_if_eq (tgt := 16) hx hb dX10_asFrame_4 (by decide) (fun c_1 => absurd c_1 (by decide)) (fun _ => ?_)
  refine lv_aload_n hx hb dX10_asFrame_7 rfl (lv_at hl 0 rfl) ?_
  refine g_cast (index := 37) hx hb hts hown hK hI 4 hG hci (by decide) hs m_cl_X10_37 dX10_asFrame_8 ?_
  refine lv_astore_n (lv' := [(1, .ref a), (0, .ref a)]) hx hb dX10_asFrame_11 rfl hl (by decide) rfl (fun ls hl => ?_)
  refine lv_aload_n hx hb dX10_asFrame_12 rfl (lv_at hl 0 rfl) ?_
  refine lv_goto (tgt := 17) hx hb dX10_asFrame_13 (by decide) ?_
  exact g_aret (o := some a) hx hb hr hlocks hI ⟨_, rfl, rfl, rfl⟩ dX10_asFrame_17 (Nat.le_of_ble_eq_true rfl) (Nat.le_of_ble_eq_true rfl)
set_option maxHeartbeats 4000000 in
set_option maxRecDepth 100000 in
theorem c_X10_asFrame_f (l : Launch) (E : gE) (b0 : Nat) (G : gG) (a ci : Nat) (fs : List Value) (hG : G a = some (.inr (ci, fs))) (hci : ci ∈ gth) (hs : gsub ci 4 = false) : gM l yX10_asFrame cX10_asFrame 2 (some (.object "HiveYard$Frame")) 0 0 0 E b0 G [.ref a] (pQ (fun v9 G1 => v9 = none ∧ G1 = G)) := by
  refine gM.of (by decide +kernel) (Nat.le_of_ble_eq_true rfl) ?_
  intro pP eP sP mI bP meth cP ls hx hb hr hml hown hlocks hnm hts hK hI hl
  have hl : lv_has ls 2 [(0, .ref a)] := hl
  have hown : sP.vm.findClass RX10 = some mI.cls := hown
  refine lv_aload_n hx hb dX10_asFrame_0 rfl (lv_at hl 0 rfl) ?_
  refine g_inst (index := 37) hx hb hts hown hK hI 4 hG hci (by decide) m_cl_X10_37 dX10_asFrame_1 ?_
  refine W.eq (g2 := F0 mI 4 ls [.int 0]) (by rw [hs]; rfl) ?_
  refine lv_if_eq (tgt := 16) hx hb dX10_asFrame_4 (by decide) (fun _ => ?_) (fun c_1 => absurd c_1 (by decide))
  refine lv_anull hx hb dX10_asFrame_16 ?_
  exact g_aret (o := none) hx hb hr hlocks hI ⟨_, rfl, rfl, rfl⟩ dX10_asFrame_17 (Nat.le_of_ble_eq_true rfl) (Nat.le_of_ble_eq_true rfl)
set_option maxHeartbeats 4000000 in
set_option maxRecDepth 100000 in
theorem c_X10_asBrood_n (l : Launch) (E : gE) (b0 : Nat) (G : gG) : gM l yX10_asBrood cX10_asBrood 2 (some (.object "HiveYard$Brood")) 0 0 0 E b0 G [.null] (pQ (fun v9 G1 => v9 = none ∧ G1 = G)) := by
  refine gM.of (by decide +kernel) (Nat.le_of_ble_eq_true rfl) ?_
  intro pP eP sP mI bP meth cP ls hx hb hr hml hown hlocks hnm hts hK hI hl
  have hl : lv_has ls 2 [(0, .null)] := hl
  have hown : sP.vm.findClass RX10 = some mI.cls := hown
  refine lv_aload_nN hx hb dX10_asBrood_0 rfl (lv_at hl 0 rfl) ?_
  refine lv_instN hx hb dX10_asBrood_1 ?_
  refine lv_if_eq (tgt := 16) hx hb dX10_asBrood_4 (by decide) (fun _ => ?_) (fun c_1 => absurd c_1 (by decide))
  refine lv_anull hx hb dX10_asBrood_16 ?_
  exact g_aret (o := none) hx hb hr hlocks hI ⟨_, rfl, rfl, rfl⟩ dX10_asBrood_17 (Nat.le_of_ble_eq_true rfl) (Nat.le_of_ble_eq_true rfl)
set_option maxHeartbeats 4000000 in
set_option maxRecDepth 100000 in
theorem c_X10_asBrood_y (l : Launch) (E : gE) (b0 : Nat) (G : gG) (a ci : Nat) (fs : List Value) (hG : G a = some (.inr (ci, fs))) (hci : ci ∈ gth) (hs : gsub ci 1 = true) : gM l yX10_asBrood cX10_asBrood 2 (some (.object "HiveYard$Brood")) 0 0 0 E b0 G [.ref a] (pQ (fun v9 G1 => v9 = some a ∧ G1 = G)) := by
  refine gM.of (by decide +kernel) (Nat.le_of_ble_eq_true rfl) ?_
  intro pP eP sP mI bP meth cP ls hx hb hr hml hown hlocks hnm hts hK hI hl
  have hl : lv_has ls 2 [(0, .ref a)] := hl
  have hown : sP.vm.findClass RX10 = some mI.cls := hown
  refine lv_aload_n hx hb dX10_asBrood_0 rfl (lv_at hl 0 rfl) ?_
  refine g_inst (index := 112) hx hb hts hown hK hI 1 hG hci (by decide) m_cl_X10_112 dX10_asBrood_1 ?_
  refine W.eq (g2 := F0 mI 4 ls [.int 1]) (by rw [hs]; rfl) ?_
  refine lv_if_eq (tgt := 16) hx hb dX10_asBrood_4 (by decide) (fun c_1 => absurd c_1 (by decide)) (fun _ => ?_)
  refine lv_aload_n hx hb dX10_asBrood_7 rfl (lv_at hl 0 rfl) ?_
  refine g_cast (index := 112) hx hb hts hown hK hI 1 hG hci (by decide) hs m_cl_X10_112 dX10_asBrood_8 ?_
  refine lv_astore_n (lv' := [(1, .ref a), (0, .ref a)]) hx hb dX10_asBrood_11 rfl hl (by decide) rfl (fun ls hl => ?_)
  refine lv_aload_n hx hb dX10_asBrood_12 rfl (lv_at hl 0 rfl) ?_
  refine lv_goto (tgt := 17) hx hb dX10_asBrood_13 (by decide) ?_
  exact g_aret (o := some a) hx hb hr hlocks hI ⟨_, rfl, rfl, rfl⟩ dX10_asBrood_17 (Nat.le_of_ble_eq_true rfl) (Nat.le_of_ble_eq_true rfl)
set_option maxHeartbeats 4000000 in
set_option maxRecDepth 100000 in
theorem c_X10_asBrood_f (l : Launch) (E : gE) (b0 : Nat) (G : gG) (a ci : Nat) (fs : List Value) (hG : G a = some (.inr (ci, fs))) (hci : ci ∈ gth) (hs : gsub ci 1 = false) : gM l yX10_asBrood cX10_asBrood 2 (some (.object "HiveYard$Brood")) 0 0 0 E b0 G [.ref a] (pQ (fun v9 G1 => v9 = none ∧ G1 = G)) := by
  refine gM.of (by decide +kernel) (Nat.le_of_ble_eq_true rfl) ?_
  intro pP eP sP mI bP meth cP ls hx hb hr hml hown hlocks hnm hts hK hI hl
  have hl : lv_has ls 2 [(0, .ref a)] := hl
  have hown : sP.vm.findClass RX10 = some mI.cls := hown
  refine lv_aload_n hx hb dX10_asBrood_0 rfl (lv_at hl 0 rfl) ?_
  refine g_inst (index := 112) hx hb hts hown hK hI 1 hG hci (by decide) m_cl_X10_112 dX10_asBrood_1 ?_
  refine W.eq (g2 := F0 mI 4 ls [.int 0]) (by rw [hs]; rfl) ?_
  refine lv_if_eq (tgt := 16) hx hb dX10_asBrood_4 (by decide) (fun _ => ?_) (fun c_1 => absurd c_1 (by decide))
  refine lv_anull hx hb dX10_asBrood_16 ?_
  exact g_aret (o := none) hx hb hr hlocks hI ⟨_, rfl, rfl, rfl⟩ dX10_asBrood_17 (Nat.le_of_ble_eq_true rfl) (Nat.le_of_ble_eq_true rfl)
set_option maxHeartbeats 4000000 in
set_option maxRecDepth 100000 in
theorem c_X10_isNoHive_n (l : Launch) (E : gE) (b0 : Nat) (G : gG) : gM l yX10_isNoHive cX10_isNoHive 1 (some .boolean) 0 0 0 E b0 G [.null] (pI (fun v9 G1 => v9 = 0 ∧ G1 = G)) := by
  refine gM.of (by decide +kernel) (Nat.le_of_ble_eq_true rfl) ?_
  intro pP eP sP mI bP meth cP ls hx hb hr hml hown hlocks hnm hts hK hI hl
  have hl : lv_has ls 1 [(0, .null)] := hl
  have hown : sP.vm.findClass RX10 = some mI.cls := hown
  refine lv_aload_nN hx hb dX10_isNoHive_0 rfl (lv_at hl 0 rfl) ?_
  refine lv_ifnullN (tgt := 15) hx hb dX10_isNoHive_1 (by decide) ?_
  refine lv_iconst (v := 0) hx hb dX10_isNoHive_15 (by decide) ?_
  exact g_zret hx hb hr hlocks hI rfl ⟨_, rfl, rfl, rfl⟩ dX10_isNoHive_16 (Nat.le_of_ble_eq_true rfl) (Nat.le_of_ble_eq_true rfl)
set_option maxHeartbeats 4000000 in
set_option maxRecDepth 100000 in
theorem c_X10_isNoHive_y (l : Launch) (E : gE) (b0 : Nat) (G : gG) (a ci : Nat) (fs : List Value) (hG : G a = some (.inr (ci, fs))) (hci : ci ∈ gth) (hs : gsub ci 5 = true) : gM l yX10_isNoHive cX10_isNoHive 1 (some .boolean) 0 0 0 E b0 G [.ref a] (pI (fun v9 G1 => v9 = 0 ∧ G1 = G)) := by
  refine gM.of (by decide +kernel) (Nat.le_of_ble_eq_true rfl) ?_
  intro pP eP sP mI bP meth cP ls hx hb hr hml hown hlocks hnm hts hK hI hl
  have hl : lv_has ls 1 [(0, .ref a)] := hl
  have hown : sP.vm.findClass RX10 = some mI.cls := hown
  refine lv_aload_n hx hb dX10_isNoHive_0 rfl (lv_at hl 0 rfl) ?_
  refine lv_ifnull hx hb dX10_isNoHive_1 ?_
  refine lv_aload_n hx hb dX10_isNoHive_4 rfl (lv_at hl 0 rfl) ?_
  refine g_inst (index := 35) hx hb hts hown hK hI 5 hG hci (by decide) m_cl_X10_35 dX10_isNoHive_5 ?_
  refine W.eq (g2 := F0 mI 8 ls [.int 1]) (by rw [hs]; rfl) ?_
  refine lv_if_ne (tgt := 15) hx hb dX10_isNoHive_8 (by decide) (fun _ => ?_) (fun c_1 => absurd c_1 (by decide))
  refine lv_iconst (v := 0) hx hb dX10_isNoHive_15 (by decide) ?_
  exact g_zret hx hb hr hlocks hI rfl ⟨_, rfl, rfl, rfl⟩ dX10_isNoHive_16 (Nat.le_of_ble_eq_true rfl) (Nat.le_of_ble_eq_true rfl)
set_option maxHeartbeats 4000000 in
set_option maxRecDepth 100000 in
theorem c_X10_isNoHive_f (l : Launch) (E : gE) (b0 : Nat) (G : gG) (a ci : Nat) (fs : List Value) (hG : G a = some (.inr (ci, fs))) (hci : ci ∈ gth) (hs : gsub ci 5 = false) : gM l yX10_isNoHive cX10_isNoHive 1 (some .boolean) 0 0 0 E b0 G [.ref a] (pI (fun v9 G1 => v9 = 1 ∧ G1 = G)) := by
  refine gM.of (by decide +kernel) (Nat.le_of_ble_eq_true rfl) ?_
  intro pP eP sP mI bP meth cP ls hx hb hr hml hown hlocks hnm hts hK hI hl
  have hl : lv_has ls 1 [(0, .ref a)] := hl
  have hown : sP.vm.findClass RX10 = some mI.cls := hown
  refine lv_aload_n hx hb dX10_isNoHive_0 rfl (lv_at hl 0 rfl) ?_
  refine lv_ifnull hx hb dX10_isNoHive_1 ?_
  refine lv_aload_n hx hb dX10_isNoHive_4 rfl (lv_at hl 0 rfl) ?_
  refine g_inst (index := 35) hx hb hts hown hK hI 5 hG hci (by decide) m_cl_X10_35 dX10_isNoHive_5 ?_
  refine W.eq (g2 := F0 mI 8 ls [.int 0]) (by rw [hs]; rfl) ?_
  refine lv_if_ne (tgt := 15) hx hb dX10_isNoHive_8 (by decide) (fun c_1 => absurd c_1 (by decide)) (fun _ => ?_)
  refine lv_iconst (v := 1) hx hb dX10_isNoHive_11 (by decide) ?_
  refine lv_goto (tgt := 16) hx hb dX10_isNoHive_12 (by decide) ?_
  exact g_zret hx hb hr hlocks hI rfl ⟨_, rfl, rfl, rfl⟩ dX10_isNoHive_16 (Nat.le_of_ble_eq_true rfl) (Nat.le_of_ble_eq_true rfl)
set_option maxHeartbeats 4000000 in
set_option maxRecDepth 100000 in
theorem c_X10_castOrNull_n (l : Launch) (E : gE) (b0 : Nat) (G : gG) : gM l yX10_castOrNull cX10_castOrNull 1 (some .int) 1 0 0 E b0 G [.null] (pI (fun v9 G1 => v9 = 1 ∧ G1 = G)) := by
  refine gM.of (by decide +kernel) (Nat.le_of_ble_eq_true rfl) ?_
  intro pP eP sP mI bP meth cP ls hx hb hr hml hown hlocks hnm hts hK hI hl
  have hl : lv_has ls 1 [(0, .null)] := hl
  have hown : sP.vm.findClass RX10 = some mI.cls := hown
  refine lv_aload_nN hx hb dX10_castOrNull_0 rfl (lv_at hl 0 rfl) ?_
  refine g_callS (own := RX10) (index := 46) (n := 1) hx hb hml hown hts (c_X10_isNoHive_n l E b0 _) m_ml_X10_46 m_st_X10_isNoHive m_in_X10 m_co_X10_isNoHive (by decide +kernel) ⟨Nat.le_of_ble_eq_true rfl, Nat.le_of_ble_eq_true rfl⟩ ⟨by first | exact Nat.le_of_ble_eq_true rfl | (show _ ≤ 0; omega), by first | exact Nat.le_of_ble_eq_true rfl | (show _ ≤ 0; omega)⟩ rfl hl.1 rfl (Nat.le_of_ble_eq_true rfl) dX10_castOrNull_1 hK hI (fun r G1 H1 L1 hp hI => ?_)
  obtain ⟨v, rfl, ev, hGe⟩ := hp
  subst ev
  rw [hGe] at hI
  refine W.eq (g2 := F0 mI 4 ls [.int 0]) rfl ?_
  refine lv_if_eq (tgt := 11) hx hb dX10_castOrNull_4 (by decide) (fun _ => ?_) (fun c_1 => absurd c_1 (by decide))
  refine lv_iconst (v := 1) hx hb dX10_castOrNull_11 (by decide) ?_
  exact g_iret hx hb hr hlocks hI ⟨_, rfl, rfl, rfl⟩ dX10_castOrNull_12 (Nat.le_of_ble_eq_true rfl) (Nat.le_of_ble_eq_true rfl)
set_option maxHeartbeats 4000000 in
set_option maxRecDepth 100000 in
theorem c_X10_castOrNull_y (l : Launch) (E : gE) (b0 : Nat) (G : gG) (a ci : Nat) (fs : List Value) (hG : G a = some (.inr (ci, fs))) (hci : ci ∈ gth) (hs : gsub ci 5 = true) : gM l yX10_castOrNull cX10_castOrNull 1 (some .int) 1 0 0 E b0 G [.ref a] (pI (fun v9 G1 => v9 = 1 ∧ G1 = G)) := by
  refine gM.of (by decide +kernel) (Nat.le_of_ble_eq_true rfl) ?_
  intro pP eP sP mI bP meth cP ls hx hb hr hml hown hlocks hnm hts hK hI hl
  have hl : lv_has ls 1 [(0, .ref a)] := hl
  have hown : sP.vm.findClass RX10 = some mI.cls := hown
  refine lv_aload_n hx hb dX10_castOrNull_0 rfl (lv_at hl 0 rfl) ?_
  refine g_callS (own := RX10) (index := 46) (n := 1) hx hb hml hown hts (c_X10_isNoHive_y l E b0 _ a ci fs hG hci hs) m_ml_X10_46 m_st_X10_isNoHive m_in_X10 m_co_X10_isNoHive (by decide +kernel) ⟨Nat.le_of_ble_eq_true rfl, Nat.le_of_ble_eq_true rfl⟩ ⟨by first | exact Nat.le_of_ble_eq_true rfl | (show _ ≤ 0; omega), by first | exact Nat.le_of_ble_eq_true rfl | (show _ ≤ 0; omega)⟩ rfl hl.1 rfl (Nat.le_of_ble_eq_true rfl) dX10_castOrNull_1 hK hI (fun r G1 H1 L1 hp hI => ?_)
  obtain ⟨v, rfl, ev, hGe⟩ := hp
  subst ev
  rw [hGe] at hI
  refine W.eq (g2 := F0 mI 4 ls [.int 0]) rfl ?_
  refine lv_if_eq (tgt := 11) hx hb dX10_castOrNull_4 (by decide) (fun _ => ?_) (fun c_1 => absurd c_1 (by decide))
  refine lv_iconst (v := 1) hx hb dX10_castOrNull_11 (by decide) ?_
  exact g_iret hx hb hr hlocks hI ⟨_, rfl, rfl, rfl⟩ dX10_castOrNull_12 (Nat.le_of_ble_eq_true rfl) (Nat.le_of_ble_eq_true rfl)
set_option maxHeartbeats 4000000 in
set_option maxRecDepth 100000 in
theorem c_X10_castOrNull_f (l : Launch) (E : gE) (b0 : Nat) (G : gG) (a ci : Nat) (fs : List Value) (hG : G a = some (.inr (ci, fs))) (hci : ci ∈ gth) (hs : gsub ci 5 = false) : gM l yX10_castOrNull cX10_castOrNull 1 (some .int) 1 0 0 E b0 G [.ref a] (pI (fun v9 G1 => v9 = 5 ∧ G1 = G)) := by
  refine gM.of (by decide +kernel) (Nat.le_of_ble_eq_true rfl) ?_
  intro pP eP sP mI bP meth cP ls hx hb hr hml hown hlocks hnm hts hK hI hl
  have hl : lv_has ls 1 [(0, .ref a)] := hl
  have hown : sP.vm.findClass RX10 = some mI.cls := hown
  refine lv_aload_n hx hb dX10_castOrNull_0 rfl (lv_at hl 0 rfl) ?_
  refine g_callS (own := RX10) (index := 46) (n := 1) hx hb hml hown hts (c_X10_isNoHive_f l E b0 _ a ci fs hG hci hs) m_ml_X10_46 m_st_X10_isNoHive m_in_X10 m_co_X10_isNoHive (by decide +kernel) ⟨Nat.le_of_ble_eq_true rfl, Nat.le_of_ble_eq_true rfl⟩ ⟨by first | exact Nat.le_of_ble_eq_true rfl | (show _ ≤ 0; omega), by first | exact Nat.le_of_ble_eq_true rfl | (show _ ≤ 0; omega)⟩ rfl hl.1 rfl (Nat.le_of_ble_eq_true rfl) dX10_castOrNull_1 hK hI (fun r G1 H1 L1 hp hI => ?_)
  obtain ⟨v, rfl, ev, hGe⟩ := hp
  subst ev
  rw [hGe] at hI
  refine W.eq (g2 := F0 mI 4 ls [.int 1]) rfl ?_
  refine lv_if_eq (tgt := 11) hx hb dX10_castOrNull_4 (by decide) (fun c_1 => absurd c_1 (by decide)) (fun _ => ?_)
  refine lv_iconst (v := 5) hx hb dX10_castOrNull_7 (by decide) ?_
  refine lv_goto (tgt := 12) hx hb dX10_castOrNull_8 (by decide) ?_
  exact g_iret hx hb hr hlocks hI ⟨_, rfl, rfl, rfl⟩ dX10_castOrNull_12 (Nat.le_of_ble_eq_true rfl) (Nat.le_of_ble_eq_true rfl)
set_option maxHeartbeats 4000000 in
set_option maxRecDepth 100000 in
theorem c_X10_isNoPart_n (l : Launch) (E : gE) (b0 : Nat) (G : gG) (w : Int32) : gM l yX10_isNoPart cX10_isNoPart 2 (some .boolean) 0 0 0 E b0 G [.null, .int w] (pI (fun v9 G1 => v9 = 0 ∧ G1 = G)) := by
  refine gM.of (by decide +kernel) (Nat.le_of_ble_eq_true rfl) ?_
  intro pP eP sP mI bP meth cP ls hx hb hr hml hown hlocks hnm hts hK hI hl
  have hl : lv_has ls 2 [(0, .null), (1, .int w)] := hl
  have hown : sP.vm.findClass RX10 = some mI.cls := hown
  refine lv_aload_nN hx hb dX10_isNoPart_0 rfl (lv_at hl 0 rfl) ?_
  refine lv_ifnonnullN hx hb dX10_isNoPart_1 ?_
  refine lv_iconst (v := 0) hx hb dX10_isNoPart_4 (by decide) ?_
  exact g_zret hx hb hr hlocks hI rfl ⟨_, rfl, rfl, rfl⟩ dX10_isNoPart_5 (Nat.le_of_ble_eq_true rfl) (Nat.le_of_ble_eq_true rfl)
set_option maxHeartbeats 4000000 in
set_option maxRecDepth 100000 in
theorem c_X10_isNoPart_0y (l : Launch) (E : gE) (b0 : Nat) (G : gG) (a ci : Nat) (fs : List Value) (hG : G a = some (.inr (ci, fs))) (hci : ci ∈ gth) (hs : gsub ci 7 = true) : gM l yX10_isNoPart cX10_isNoPart 2 (some .boolean) 0 0 0 E b0 G [.ref a, .int 0] (pI (fun v9 G1 => v9 = 0 ∧ G1 = G)) := by
  refine gM.of (by decide +kernel) (Nat.le_of_ble_eq_true rfl) ?_
  intro pP eP sP mI bP meth cP ls hx hb hr hml hown hlocks hnm hts hK hI hl
  have hl : lv_has ls 2 [(0, .ref a), (1, .int 0)] := hl
  have hown : sP.vm.findClass RX10 = some mI.cls := hown
  refine lv_aload_n hx hb dX10_isNoPart_0 rfl (lv_at hl 0 rfl) ?_
  refine lv_ifnonnull (tgt := 6) hx hb dX10_isNoPart_1 (by decide) ?_
  refine lv_iload_n hx hb dX10_isNoPart_6 rfl (lv_at hl 1 rfl) ?_
  refine lv_lookup (off := 25) (tgt := 32) hx hb dX10_isNoPart_7 (by decide) (by decide) (by decide) ?_
  refine lv_aload_n hx hb dX10_isNoPart_32 rfl (lv_at hl 0 rfl) ?_
  refine g_inst (index := 117) hx hb hts hown hK hI 7 hG hci (by decide) m_cl_X10_117 dX10_isNoPart_33 ?_
  refine W.eq (g2 := F0 mI 36 ls [.int 1]) (by rw [hs]; rfl) ?_
  refine lv_if_ne (tgt := 43) hx hb dX10_isNoPart_36 (by decide) (fun _ => ?_) (fun c_1 => absurd c_1 (by decide))
  refine lv_iconst (v := 0) hx hb dX10_isNoPart_43 (by decide) ?_
  exact g_zret hx hb hr hlocks hI rfl ⟨_, rfl, rfl, rfl⟩ dX10_isNoPart_44 (Nat.le_of_ble_eq_true rfl) (Nat.le_of_ble_eq_true rfl)
set_option maxHeartbeats 4000000 in
set_option maxRecDepth 100000 in
theorem c_X10_isNoPart_0f (l : Launch) (E : gE) (b0 : Nat) (G : gG) (a ci : Nat) (fs : List Value) (hG : G a = some (.inr (ci, fs))) (hci : ci ∈ gth) (hs : gsub ci 7 = false) : gM l yX10_isNoPart cX10_isNoPart 2 (some .boolean) 0 0 0 E b0 G [.ref a, .int 0] (pI (fun v9 G1 => v9 = 1 ∧ G1 = G)) := by
  refine gM.of (by decide +kernel) (Nat.le_of_ble_eq_true rfl) ?_
  intro pP eP sP mI bP meth cP ls hx hb hr hml hown hlocks hnm hts hK hI hl
  have hl : lv_has ls 2 [(0, .ref a), (1, .int 0)] := hl
  have hown : sP.vm.findClass RX10 = some mI.cls := hown
  refine lv_aload_n hx hb dX10_isNoPart_0 rfl (lv_at hl 0 rfl) ?_
  refine lv_ifnonnull (tgt := 6) hx hb dX10_isNoPart_1 (by decide) ?_
  refine lv_iload_n hx hb dX10_isNoPart_6 rfl (lv_at hl 1 rfl) ?_
  refine lv_lookup (off := 25) (tgt := 32) hx hb dX10_isNoPart_7 (by decide) (by decide) (by decide) ?_
  refine lv_aload_n hx hb dX10_isNoPart_32 rfl (lv_at hl 0 rfl) ?_
  refine g_inst (index := 117) hx hb hts hown hK hI 7 hG hci (by decide) m_cl_X10_117 dX10_isNoPart_33 ?_
  refine W.eq (g2 := F0 mI 36 ls [.int 0]) (by rw [hs]; rfl) ?_
  refine lv_if_ne (tgt := 43) hx hb dX10_isNoPart_36 (by decide) (fun c_1 => absurd c_1 (by decide)) (fun _ => ?_)
  refine lv_iconst (v := 1) hx hb dX10_isNoPart_39 (by decide) ?_
  refine lv_goto (tgt := 44) hx hb dX10_isNoPart_40 (by decide) ?_
  exact g_zret hx hb hr hlocks hI rfl ⟨_, rfl, rfl, rfl⟩ dX10_isNoPart_44 (Nat.le_of_ble_eq_true rfl) (Nat.le_of_ble_eq_true rfl)
set_option maxHeartbeats 4000000 in
set_option maxRecDepth 100000 in
theorem c_X10_isNoPart_1y (l : Launch) (E : gE) (b0 : Nat) (G : gG) (a ci : Nat) (fs : List Value) (hG : G a = some (.inr (ci, fs))) (hci : ci ∈ gth) (hs : gsub ci 6 = true) : gM l yX10_isNoPart cX10_isNoPart 2 (some .boolean) 0 0 0 E b0 G [.ref a, .int 1] (pI (fun v9 G1 => v9 = 0 ∧ G1 = G)) := by
  refine gM.of (by decide +kernel) (Nat.le_of_ble_eq_true rfl) ?_
  intro pP eP sP mI bP meth cP ls hx hb hr hml hown hlocks hnm hts hK hI hl
  have hl : lv_has ls 2 [(0, .ref a), (1, .int 1)] := hl
  have hown : sP.vm.findClass RX10 = some mI.cls := hown
  refine lv_aload_n hx hb dX10_isNoPart_0 rfl (lv_at hl 0 rfl) ?_
  refine lv_ifnonnull (tgt := 6) hx hb dX10_isNoPart_1 (by decide) ?_
  refine lv_iload_n hx hb dX10_isNoPart_6 rfl (lv_at hl 1 rfl) ?_
  refine lv_lookup (off := 38) (tgt := 45) hx hb dX10_isNoPart_7 (by decide) (by decide) (by decide) ?_
  refine lv_aload_n hx hb dX10_isNoPart_45 rfl (lv_at hl 0 rfl) ?_
  refine g_inst (index := 129) hx hb hts hown hK hI 6 hG hci (by decide) m_cl_X10_129 dX10_isNoPart_46 ?_
  refine W.eq (g2 := F0 mI 49 ls [.int 1]) (by rw [hs]; rfl) ?_
  refine lv_if_ne (tgt := 56) hx hb dX10_isNoPart_49 (by decide) (fun _ => ?_) (fun c_1 => absurd c_1 (by decide))
  refine lv_iconst (v := 0) hx hb dX10_isNoPart_56 (by decide) ?_
  exact g_zret hx hb hr hlocks hI rfl ⟨_, rfl, rfl, rfl⟩ dX10_isNoPart_57 (Nat.le_of_ble_eq_true rfl) (Nat.le_of_ble_eq_true rfl)
set_option maxHeartbeats 4000000 in
set_option maxRecDepth 100000 in
theorem c_X10_isNoPart_1f (l : Launch) (E : gE) (b0 : Nat) (G : gG) (a ci : Nat) (fs : List Value) (hG : G a = some (.inr (ci, fs))) (hci : ci ∈ gth) (hs : gsub ci 6 = false) : gM l yX10_isNoPart cX10_isNoPart 2 (some .boolean) 0 0 0 E b0 G [.ref a, .int 1] (pI (fun v9 G1 => v9 = 1 ∧ G1 = G)) := by
  refine gM.of (by decide +kernel) (Nat.le_of_ble_eq_true rfl) ?_
  intro pP eP sP mI bP meth cP ls hx hb hr hml hown hlocks hnm hts hK hI hl
  have hl : lv_has ls 2 [(0, .ref a), (1, .int 1)] := hl
  have hown : sP.vm.findClass RX10 = some mI.cls := hown
  refine lv_aload_n hx hb dX10_isNoPart_0 rfl (lv_at hl 0 rfl) ?_
  refine lv_ifnonnull (tgt := 6) hx hb dX10_isNoPart_1 (by decide) ?_
  refine lv_iload_n hx hb dX10_isNoPart_6 rfl (lv_at hl 1 rfl) ?_
  refine lv_lookup (off := 38) (tgt := 45) hx hb dX10_isNoPart_7 (by decide) (by decide) (by decide) ?_
  refine lv_aload_n hx hb dX10_isNoPart_45 rfl (lv_at hl 0 rfl) ?_
  refine g_inst (index := 129) hx hb hts hown hK hI 6 hG hci (by decide) m_cl_X10_129 dX10_isNoPart_46 ?_
  refine W.eq (g2 := F0 mI 49 ls [.int 0]) (by rw [hs]; rfl) ?_
  refine lv_if_ne (tgt := 56) hx hb dX10_isNoPart_49 (by decide) (fun c_1 => absurd c_1 (by decide)) (fun _ => ?_)
  refine lv_iconst (v := 1) hx hb dX10_isNoPart_52 (by decide) ?_
  refine lv_goto (tgt := 57) hx hb dX10_isNoPart_53 (by decide) ?_
  exact g_zret hx hb hr hlocks hI rfl ⟨_, rfl, rfl, rfl⟩ dX10_isNoPart_57 (Nat.le_of_ble_eq_true rfl) (Nat.le_of_ble_eq_true rfl)
set_option maxHeartbeats 4000000 in
set_option maxRecDepth 100000 in
theorem c_X10_isNoPart_2y (l : Launch) (E : gE) (b0 : Nat) (G : gG) (a ci : Nat) (fs : List Value) (hG : G a = some (.inr (ci, fs))) (hci : ci ∈ gth) (hs : gsub ci 0 = true) : gM l yX10_isNoPart cX10_isNoPart 2 (some .boolean) 0 0 0 E b0 G [.ref a, .int 2] (pI (fun v9 G1 => v9 = 0 ∧ G1 = G)) := by
  refine gM.of (by decide +kernel) (Nat.le_of_ble_eq_true rfl) ?_
  intro pP eP sP mI bP meth cP ls hx hb hr hml hown hlocks hnm hts hK hI hl
  have hl : lv_has ls 2 [(0, .ref a), (1, .int 2)] := hl
  have hown : sP.vm.findClass RX10 = some mI.cls := hown
  refine lv_aload_n hx hb dX10_isNoPart_0 rfl (lv_at hl 0 rfl) ?_
  refine lv_ifnonnull (tgt := 6) hx hb dX10_isNoPart_1 (by decide) ?_
  refine lv_iload_n hx hb dX10_isNoPart_6 rfl (lv_at hl 1 rfl) ?_
  refine lv_lookup (off := 51) (tgt := 58) hx hb dX10_isNoPart_7 (by decide) (by decide) (by decide) ?_
  refine lv_aload_n hx hb dX10_isNoPart_58 rfl (lv_at hl 0 rfl) ?_
  refine g_inst (index := 153) hx hb hts hown hK hI 0 hG hci (by decide) m_cl_X10_153 dX10_isNoPart_59 ?_
  refine W.eq (g2 := F0 mI 62 ls [.int 1]) (by rw [hs]; rfl) ?_
  refine lv_if_ne (tgt := 69) hx hb dX10_isNoPart_62 (by decide) (fun _ => ?_) (fun c_1 => absurd c_1 (by decide))
  refine lv_iconst (v := 0) hx hb dX10_isNoPart_69 (by decide) ?_
  exact g_zret hx hb hr hlocks hI rfl ⟨_, rfl, rfl, rfl⟩ dX10_isNoPart_70 (Nat.le_of_ble_eq_true rfl) (Nat.le_of_ble_eq_true rfl)
set_option maxHeartbeats 4000000 in
set_option maxRecDepth 100000 in
theorem c_X10_isNoPart_2f (l : Launch) (E : gE) (b0 : Nat) (G : gG) (a ci : Nat) (fs : List Value) (hG : G a = some (.inr (ci, fs))) (hci : ci ∈ gth) (hs : gsub ci 0 = false) : gM l yX10_isNoPart cX10_isNoPart 2 (some .boolean) 0 0 0 E b0 G [.ref a, .int 2] (pI (fun v9 G1 => v9 = 1 ∧ G1 = G)) := by
  refine gM.of (by decide +kernel) (Nat.le_of_ble_eq_true rfl) ?_
  intro pP eP sP mI bP meth cP ls hx hb hr hml hown hlocks hnm hts hK hI hl
  have hl : lv_has ls 2 [(0, .ref a), (1, .int 2)] := hl
  have hown : sP.vm.findClass RX10 = some mI.cls := hown
  refine lv_aload_n hx hb dX10_isNoPart_0 rfl (lv_at hl 0 rfl) ?_
  refine lv_ifnonnull (tgt := 6) hx hb dX10_isNoPart_1 (by decide) ?_
  refine lv_iload_n hx hb dX10_isNoPart_6 rfl (lv_at hl 1 rfl) ?_
  refine lv_lookup (off := 51) (tgt := 58) hx hb dX10_isNoPart_7 (by decide) (by decide) (by decide) ?_
  refine lv_aload_n hx hb dX10_isNoPart_58 rfl (lv_at hl 0 rfl) ?_
  refine g_inst (index := 153) hx hb hts hown hK hI 0 hG hci (by decide) m_cl_X10_153 dX10_isNoPart_59 ?_
  refine W.eq (g2 := F0 mI 62 ls [.int 0]) (by rw [hs]; rfl) ?_
  refine lv_if_ne (tgt := 69) hx hb dX10_isNoPart_62 (by decide) (fun c_1 => absurd c_1 (by decide)) (fun _ => ?_)
  refine lv_iconst (v := 1) hx hb dX10_isNoPart_65 (by decide) ?_
  refine lv_goto (tgt := 70) hx hb dX10_isNoPart_66 (by decide) ?_
  exact g_zret hx hb hr hlocks hI rfl ⟨_, rfl, rfl, rfl⟩ dX10_isNoPart_70 (Nat.le_of_ble_eq_true rfl) (Nat.le_of_ble_eq_true rfl)
set_option maxHeartbeats 4000000 in
set_option maxRecDepth 100000 in
theorem c_X5_init_0 (l : Launch) (E : gE) (b0 : Nat) (G : gG) (a r0 : Nat) (b : Int32) (hb0 :  b = 0) (hG : G a = some (.inr (5, [.int 0, .null, .null, .null, .null, .null]))) : gM l yX5_init cX5_init 3 none 2 0 0 E b0 G [.ref a, .int b, .ref r0] (pV (fun G1 => G1 = gu G a (.inr (5, [.int 6, .ref r0, .null, .null, .null, .null])))) := by
  refine gM.of (by decide +kernel) (Nat.le_of_ble_eq_true rfl) ?_
  intro pP eP sP mI bP meth cP ls hx hb hr hml hown hlocks hnm hts hK hI hl
  have hl : lv_has ls 3 [(0, .ref a), (1, .int b), (2, .ref r0)] := hl
  have hown : sP.vm.findClass RX5 = some mI.cls := hown
  refine lv_aload_n hx hb dX5_init_0 rfl (lv_at hl 0 rfl) ?_
  refine lv_iload_n hx hb dX5_init_1 rfl (lv_at hl 1 rfl) ?_
  refine lv_if_eq (tgt := 10) hx hb dX5_init_2 (by decide) (fun _ => ?_) (fun c_1 => by first | exact absurd hb0 c_1 | exact absurd c_1 hb0 | (simp_all; done))
  refine lv_bipush (v := 6) hx hb dX5_init_10 (by decide) ?_
  refine g_callI (own := RX5) (index := 3) (n := 1) hx hb hml hown hts (c_X9_init_5 l E b0 _ a 6 hG) m_ml_X5_3 m_im_X9_init m_in_X9 m_co_X9_init rfl (by decide +kernel) ⟨Nat.le_of_ble_eq_true rfl, Nat.le_of_ble_eq_true rfl⟩ ⟨by first | exact Nat.le_of_ble_eq_true rfl | (show _ ≤ 0; omega), by first | exact Nat.le_of_ble_eq_true rfl | (show _ ≤ 0; omega)⟩ rfl hl.1 rfl (Nat.le_of_ble_eq_true rfl) dX5_init_12 hK hI (fun r G1 H1 L1 hp hI => ?_)
  obtain ⟨rfl, rfl⟩ := hp
  refine W.eq (g2 := F0 mI 15 ls []) rfl ?_
  refine lv_aload_n hx hb dX5_init_15 rfl (lv_at hl 0 rfl) ?_
  refine lv_aload_n hx hb dX5_init_16 rfl (lv_at hl 2 rfl) ?_
  refine g_put (index := 9) (ci := 5) hx hb hts inlX5 tyX5 tyX5_ok nmX5 hown hK hI (gu_s _ _ _) rfl 1 (by decide) m_fl_X5_9 (fun _ h9 => h9) rfl rfl rfl (Nat.le_of_ble_eq_true rfl) dX5_init_17 (fun H1 L1 hI => ?_)
  refine W.eq (g2 := F0 mI 20 ls []) rfl ?_
  exact g_vret hx hb hr hlocks hI ⟨rfl, by first | rfl | (simp only [gu_uu]; rfl)⟩ dX5_init_20 (Nat.le_of_ble_eq_true rfl) (Nat.le_of_ble_eq_true rfl)
set_option maxHeartbeats 4000000 in
set_option maxRecDepth 100000 in
theorem c_X5_init_1 (l : Launch) (E : gE) (b0 : Nat) (G : gG) (a r0 : Nat) (b : Int32) (hb0 : ¬ b = 0) (hG : G a = some (.inr (5, [.int 0, .null, .null, .null, .null, .null]))) : gM l yX5_init cX5_init 3 none 2 0 0 E b0 G [.ref a, .int b, .ref r0] (pV (fun G1 => G1 = gu G a (.inr (5, [.int 7, .ref r0, .null, .null, .null, .null])))) := by
  refine gM.of (by decide +kernel) (Nat.le_of_ble_eq_true rfl) ?_
  intro pP eP sP mI bP meth cP ls hx hb hr hml hown hlocks hnm hts hK hI hl
  have hl : lv_has ls 3 [(0, .ref a), (1, .int b), (2, .ref r0)] := hl
  have hown : sP.vm.findClass RX5 = some mI.cls := hown
  refine lv_aload_n hx hb dX5_init_0 rfl (lv_at hl 0 rfl) ?_
  refine lv_iload_n hx hb dX5_init_1 rfl (lv_at hl 1 rfl) ?_
  refine lv_if_eq (tgt := 10) hx hb dX5_init_2 (by decide) (fun c_1 => by first | exact absurd hb0 c_1 | exact absurd c_1 hb0 | (simp_all; done)) (fun _ => ?_)
  refine lv_bipush (v := 7) hx hb dX5_init_5 (by decide) ?_
  refine lv_goto (tgt := 12) hx hb dX5_init_7 (by decide) ?_
  refine g_callI (own := RX5) (index := 3) (n := 1) hx hb hml hown hts (c_X9_init_5 l E b0 _ a 7 hG) m_ml_X5_3 m_im_X9_init m_in_X9 m_co_X9_init rfl (by decide +kernel) ⟨Nat.le_of_ble_eq_true rfl, Nat.le_of_ble_eq_true rfl⟩ ⟨by first | exact Nat.le_of_ble_eq_true rfl | (show _ ≤ 0; omega), by first | exact Nat.le_of_ble_eq_true rfl | (show _ ≤ 0; omega)⟩ rfl hl.1 rfl (Nat.le_of_ble_eq_true rfl) dX5_init_12 hK hI (fun r G1 H1 L1 hp hI => ?_)
  obtain ⟨rfl, rfl⟩ := hp
  refine W.eq (g2 := F0 mI 15 ls []) rfl ?_
  refine lv_aload_n hx hb dX5_init_15 rfl (lv_at hl 0 rfl) ?_
  refine lv_aload_n hx hb dX5_init_16 rfl (lv_at hl 2 rfl) ?_
  refine g_put (index := 9) (ci := 5) hx hb hts inlX5 tyX5 tyX5_ok nmX5 hown hK hI (gu_s _ _ _) rfl 1 (by decide) m_fl_X5_9 (fun _ h9 => h9) rfl rfl rfl (Nat.le_of_ble_eq_true rfl) dX5_init_17 (fun H1 L1 hI => ?_)
  refine W.eq (g2 := F0 mI 20 ls []) rfl ?_
  exact g_vret hx hb hr hlocks hI ⟨rfl, by first | rfl | (simp only [gu_uu]; rfl)⟩ dX5_init_20 (Nat.le_of_ble_eq_true rfl) (Nat.le_of_ble_eq_true rfl)
section ARA
variable {p : Program} {l : Launch} {e : Env} {R : Room} {s : State} {m : MethodId} {args : Array Value} {below : List Frame} {meth : Method} {c : Code} {H : Heap} {locs : List Loc} {cells slots : Nat}
variable {cc : ByteArray} {pc : Nat} {ls : Array Slot} {E : gE} {b0 : Nat} {G0 G : gG}
theorem g_aretA {post : Option Value → gG → Prop} {o : Option Nat} {ft : FieldType} {mc ms : Nat} (hx : p.tables.exec = Jvm.exec) (hb : c.code = cc) (hr : meth.sig.returnType = some (.array ft)) (hlocks : meth.locks = false) (hI : gI E.1 b0 G0 s.heap G H locs) (hp : post (some (va_rf o)) G) (hdg : decode cc pc = .ok (.areturn, 1)) (hk : cells ≤ mc) (hs : slots ≤ ms) :
    W p l e R s m args below meth c H locs cells slots (MQ below (gQ E b0 G0 post) args s mc ms (fun q => b0 ≤ q)) (F0 m pc ls [va_rf o]) :=
  W.widen hk hs (W.aret hx hb hr (Or.inr ⟨_, rfl⟩) (va_rf_or o) (fun t ht _ => ⟨_, G, rfl, hp, by rw [ht]; exact hI.nolocs⟩) hI.2.2.2.2.2.2 hdg hlocks)
end ARA
set_option maxHeartbeats 4000000 in
set_option maxRecDepth 100000 in
theorem c_X10_rowOf_n (l : Launch) (E : gE) (b0 : Nat) (G : gG) : gM l yX10_rowOf cX10_rowOf 1 (some (.array (.object "HiveYard$Frame"))) 0 0 0 E b0 G [.null] (pQ (fun v9 G1 => v9 = none ∧ G1 = G)) := by
  refine gM.of (by decide +kernel) (Nat.le_of_ble_eq_true rfl) ?_
  intro pP eP sP mI bP meth cP ls hx hb hr hml hown hlocks hnm hts hK hI hl
  have hl : lv_has ls 1 [(0, .null)] := hl
  have hown : sP.vm.findClass RX10 = some mI.cls := hown
  refine lv_aload_nN hx hb dX10_rowOf_0 rfl (lv_at hl 0 rfl) ?_
  refine lv_ifnonnullN hx hb dX10_rowOf_1 ?_
  refine lv_anull hx hb dX10_rowOf_4 ?_
  refine lv_goto (tgt := 12) hx hb dX10_rowOf_5 (by decide) ?_
  exact g_aretA (o := none) hx hb hr hlocks hI ⟨_, rfl, rfl, rfl⟩ dX10_rowOf_12 (Nat.le_of_ble_eq_true rfl) (Nat.le_of_ble_eq_true rfl)
set_option maxHeartbeats 4000000 in
set_option maxRecDepth 100000 in
theorem c_X10_rowOf_r (l : Launch) (E : gE) (b0 : Nat) (G : gG) (h : Nat) (so : Int32) (q1 q2 q3 q4 q5 : Option Nat) (hH : G h = some (.inr (5, [.int so, va_rf q1, va_rf q2, va_rf q3, va_rf q4, va_rf q5]))) : gM l yX10_rowOf cX10_rowOf 1 (some (.array (.object "HiveYard$Frame"))) 0 0 0 E b0 G [.ref h] (pQ (fun v9 G1 => v9 = q1 ∧ G1 = G)) := by
  refine gM.of (by decide +kernel) (Nat.le_of_ble_eq_true rfl) ?_
  intro pP eP sP mI bP meth cP ls hx hb hr hml hown hlocks hnm hts hK hI hl
  have hl : lv_has ls 1 [(0, .ref h)] := hl
  have hown : sP.vm.findClass RX10 = some mI.cls := hown
  refine lv_aload_n hx hb dX10_rowOf_0 rfl (lv_at hl 0 rfl) ?_
  refine lv_ifnonnull (tgt := 8) hx hb dX10_rowOf_1 (by decide) ?_
  refine lv_aload_n hx hb dX10_rowOf_8 rfl (lv_at hl 0 rfl) ?_
  refine g_get (index := 62) (ci := 5) hx hb hts inlX5 hown hK hI hH rfl 1 (by decide) m_fl_X10_62 (fun _ h9 => h9) rfl dX10_rowOf_9 ?_
  exact g_aretA (o := q1) hx hb hr hlocks hI ⟨_, rfl, rfl, rfl⟩ dX10_rowOf_12 (Nat.le_of_ble_eq_true rfl) (Nat.le_of_ble_eq_true rfl)
set_option maxHeartbeats 4000000 in
set_option maxRecDepth 100000 in
theorem c_X5_canHold_6n (l : Launch) (E : gE) (b0 : Nat) (G : gG) (h : Nat) (so : Int32) (q1 q2 q3 q4 q5 : Option Nat) (hH : G h = some (.inr (5, [.int so, va_rf q1, va_rf q2, va_rf q3, va_rf q4, va_rf q5]))) (h6 : so = 6) : gM l yX5_canHold cX5_canHold 2 (some .boolean) 0 0 0 E b0 G [.ref h, .null] (pI (fun v9 G1 => v9 = 1 ∧ G1 = G)) := by
  refine gM.of (by decide +kernel) (Nat.le_of_ble_eq_true rfl) ?_
  intro pP eP sP mI bP meth cP ls hx hb hr hml hown hlocks hnm hts hK hI hl
  have hl : lv_has ls 2 [(0, .ref h), (1, .null)] := hl
  have hown : sP.vm.findClass RX5 = some mI.cls := hown
  refine lv_aload_n hx hb dX5_canHold_0 rfl (lv_at hl 0 rfl) ?_
  refine g_get (index := 15) (ci := 5) hx hb hts inlX5 hown hK hI hH rfl 0 (by decide) m_fl_X5_15 (u_same (hts _ m_sf_X5_sort)) rfl dX5_canHold_1 ?_
  refine lv_bipush (v := 6) hx hb dX5_canHold_4 (by decide) ?_
  refine lv_icmp_eq (tgt := 20) hx hb dX5_canHold_6 (by decide) (fun _ => ?_) (fun c_1 => by first | exact absurd h6 c_1 | exact absurd c_1 h6 | (simp_all; done))
  refine lv_iconst (v := 1) hx hb dX5_canHold_20 (by decide) ?_
  refine lv_goto (tgt := 25) hx hb dX5_canHold_21 (by decide) ?_
  exact g_zret hx hb hr hlocks hI rfl ⟨_, rfl, rfl, rfl⟩ dX5_canHold_25 (Nat.le_of_ble_eq_true rfl) (Nat.le_of_ble_eq_true rfl)
set_option maxHeartbeats 4000000 in
set_option maxRecDepth 100000 in
theorem c_X5_canHold_6r (l : Launch) (E : gE) (b0 : Nat) (G : gG) (h : Nat) (so : Int32) (q1 q2 q3 q4 q5 : Option Nat) (hH : G h = some (.inr (5, [.int so, va_rf q1, va_rf q2, va_rf q3, va_rf q4, va_rf q5]))) (h6 : so = 6) (a : Nat) : gM l yX5_canHold cX5_canHold 2 (some .boolean) 0 0 0 E b0 G [.ref h, .ref a] (pI (fun v9 G1 => v9 = 1 ∧ G1 = G)) := by
  refine gM.of (by decide +kernel) (Nat.le_of_ble_eq_true rfl) ?_
  intro pP eP sP mI bP meth cP ls hx hb hr hml hown hlocks hnm hts hK hI hl
  have hl : lv_has ls 2 [(0, .ref h), (1, .ref a)] := hl
  have hown : sP.vm.findClass RX5 = some mI.cls := hown
  refine lv_aload_n hx hb dX5_canHold_0 rfl (lv_at hl 0 rfl) ?_
  refine g_get (index := 15) (ci := 5) hx hb hts inlX5 hown hK hI hH rfl 0 (by decide) m_fl_X5_15 (u_same (hts _ m_sf_X5_sort)) rfl dX5_canHold_1 ?_
  refine lv_bipush (v := 6) hx hb dX5_canHold_4 (by decide) ?_
  refine lv_icmp_eq (tgt := 20) hx hb dX5_canHold_6 (by decide) (fun _ => ?_) (fun c_1 => by first | exact absurd h6 c_1 | exact absurd c_1 h6 | (simp_all; done))
  refine lv_iconst (v := 1) hx hb dX5_canHold_20 (by decide) ?_
  refine lv_goto (tgt := 25) hx hb dX5_canHold_21 (by decide) ?_
  exact g_zret hx hb hr hlocks hI rfl ⟨_, rfl, rfl, rfl⟩ dX5_canHold_25 (Nat.le_of_ble_eq_true rfl) (Nat.le_of_ble_eq_true rfl)
set_option maxHeartbeats 4000000 in
set_option maxRecDepth 100000 in
theorem c_X5_canHold_7n (l : Launch) (E : gE) (b0 : Nat) (G : gG) (h : Nat) (so : Int32) (q1 q2 q3 q4 q5 : Option Nat) (hH : G h = some (.inr (5, [.int so, va_rf q1, va_rf q2, va_rf q3, va_rf q4, va_rf q5]))) (h6 : ¬ so = 6) : gM l yX5_canHold cX5_canHold 2 (some .boolean) 0 0 0 E b0 G [.ref h, .null] (pI (fun v9 G1 => v9 = 1 ∧ G1 = G)) := by
  refine gM.of (by decide +kernel) (Nat.le_of_ble_eq_true rfl) ?_
  intro pP eP sP mI bP meth cP ls hx hb hr hml hown hlocks hnm hts hK hI hl
  have hl : lv_has ls 2 [(0, .ref h), (1, .null)] := hl
  have hown : sP.vm.findClass RX5 = some mI.cls := hown
  refine lv_aload_n hx hb dX5_canHold_0 rfl (lv_at hl 0 rfl) ?_
  refine g_get (index := 15) (ci := 5) hx hb hts inlX5 hown hK hI hH rfl 0 (by decide) m_fl_X5_15 (u_same (hts _ m_sf_X5_sort)) rfl dX5_canHold_1 ?_
  refine lv_bipush (v := 6) hx hb dX5_canHold_4 (by decide) ?_
  refine lv_icmp_eq (tgt := 20) hx hb dX5_canHold_6 (by decide) (fun c_1 => by first | exact absurd h6 c_1 | exact absurd c_1 h6 | (simp_all; done)) (fun _ => ?_)
  refine lv_aload_nN hx hb dX5_canHold_9 rfl (lv_at hl 1 rfl) ?_
  refine lv_ifnullN (tgt := 20) hx hb dX5_canHold_10 (by decide) ?_
  refine lv_iconst (v := 1) hx hb dX5_canHold_20 (by decide) ?_
  refine lv_goto (tgt := 25) hx hb dX5_canHold_21 (by decide) ?_
  exact g_zret hx hb hr hlocks hI rfl ⟨_, rfl, rfl, rfl⟩ dX5_canHold_25 (Nat.le_of_ble_eq_true rfl) (Nat.le_of_ble_eq_true rfl)
set_option maxHeartbeats 4000000 in
set_option maxRecDepth 100000 in
theorem c_X5_canHold_7y (l : Launch) (E : gE) (b0 : Nat) (G : gG) (a ci : Nat) (fs : List Value) (hG : G a = some (.inr (ci, fs))) (hci : ci ∈ gth) (h : Nat) (so : Int32) (q1 q2 q3 q4 q5 : Option Nat) (hH : G h = some (.inr (5, [.int so, va_rf q1, va_rf q2, va_rf q3, va_rf q4, va_rf q5]))) (h6 : ¬ so = 6) (hs : gsub ci 1 = true) : gM l yX5_canHold cX5_canHold 2 (some .boolean) 0 0 0 E b0 G [.ref h, .ref a] (pI (fun v9 G1 => v9 = 1 ∧ G1 = G)) := by
  refine gM.of (by decide +kernel) (Nat.le_of_ble_eq_true rfl) ?_
  intro pP eP sP mI bP meth cP ls hx hb hr hml hown hlocks hnm hts hK hI hl
  have hl : lv_has ls 2 [(0, .ref h), (1, .ref a)] := hl
  have hown : sP.vm.findClass RX5 = some mI.cls := hown
  refine lv_aload_n hx hb dX5_canHold_0 rfl (lv_at hl 0 rfl) ?_
  refine g_get (index := 15) (ci := 5) hx hb hts inlX5 hown hK hI hH rfl 0 (by decide) m_fl_X5_15 (u_same (hts _ m_sf_X5_sort)) rfl dX5_canHold_1 ?_
  refine lv_bipush (v := 6) hx hb dX5_canHold_4 (by decide) ?_
  refine lv_icmp_eq (tgt := 20) hx hb dX5_canHold_6 (by decide) (fun c_1 => by first | exact absurd h6 c_1 | exact absurd c_1 h6 | (simp_all; done)) (fun _ => ?_)
  refine lv_aload_n hx hb dX5_canHold_9 rfl (lv_at hl 1 rfl) ?_
  refine lv_ifnull hx hb dX5_canHold_10 ?_
  refine lv_aload_n hx hb dX5_canHold_13 rfl (lv_at hl 1 rfl) ?_
  refine g_inst (index := 19) hx hb hts hown hK hI 1 hG hci (by decide) m_cl_X5_19 dX5_canHold_14 ?_
  refine W.eq (g2 := F0 mI 17 ls [.int 1]) (by rw [hs]; rfl) ?_
  refine lv_if_eq (tgt := 24) hx hb dX5_canHold_17 (by decide) (fun c_2 => absurd c_2 (by decide)) (fun _ => ?_)
  refine lv_iconst (v := 1) hx hb dX5_canHold_20 (by decide) ?_
  refine lv_goto (tgt := 25) hx hb dX5_canHold_21 (by decide) ?_
  exact g_zret hx hb hr hlocks hI rfl ⟨_, rfl, rfl, rfl⟩ dX5_canHold_25 (Nat.le_of_ble_eq_true rfl) (Nat.le_of_ble_eq_true rfl)
set_option maxHeartbeats 4000000 in
set_option maxRecDepth 100000 in
theorem c_X5_canHold_7f (l : Launch) (E : gE) (b0 : Nat) (G : gG) (a ci : Nat) (fs : List Value) (hG : G a = some (.inr (ci, fs))) (hci : ci ∈ gth) (h : Nat) (so : Int32) (q1 q2 q3 q4 q5 : Option Nat) (hH : G h = some (.inr (5, [.int so, va_rf q1, va_rf q2, va_rf q3, va_rf q4, va_rf q5]))) (h6 : ¬ so = 6) (hs : gsub ci 1 = false) : gM l yX5_canHold cX5_canHold 2 (some .boolean) 0 0 0 E b0 G [.ref h, .ref a] (pI (fun v9 G1 => v9 = 0 ∧ G1 = G)) := by
  refine gM.of (by decide +kernel) (Nat.le_of_ble_eq_true rfl) ?_
  intro pP eP sP mI bP meth cP ls hx hb hr hml hown hlocks hnm hts hK hI hl
  have hl : lv_has ls 2 [(0, .ref h), (1, .ref a)] := hl
  have hown : sP.vm.findClass RX5 = some mI.cls := hown
  refine lv_aload_n hx hb dX5_canHold_0 rfl (lv_at hl 0 rfl) ?_
  refine g_get (index := 15) (ci := 5) hx hb hts inlX5 hown hK hI hH rfl 0 (by decide) m_fl_X5_15 (u_same (hts _ m_sf_X5_sort)) rfl dX5_canHold_1 ?_
  refine lv_bipush (v := 6) hx hb dX5_canHold_4 (by decide) ?_
  refine lv_icmp_eq (tgt := 20) hx hb dX5_canHold_6 (by decide) (fun c_1 => by first | exact absurd h6 c_1 | exact absurd c_1 h6 | (simp_all; done)) (fun _ => ?_)
  refine lv_aload_n hx hb dX5_canHold_9 rfl (lv_at hl 1 rfl) ?_
  refine lv_ifnull hx hb dX5_canHold_10 ?_
  refine lv_aload_n hx hb dX5_canHold_13 rfl (lv_at hl 1 rfl) ?_
  refine g_inst (index := 19) hx hb hts hown hK hI 1 hG hci (by decide) m_cl_X5_19 dX5_canHold_14 ?_
  refine W.eq (g2 := F0 mI 17 ls [.int 0]) (by rw [hs]; rfl) ?_
  refine lv_if_eq (tgt := 24) hx hb dX5_canHold_17 (by decide) (fun _ => ?_) (fun c_2 => absurd c_2 (by decide))
  refine lv_iconst (v := 0) hx hb dX5_canHold_24 (by decide) ?_
  exact g_zret hx hb hr hlocks hI rfl ⟨_, rfl, rfl, rfl⟩ dX5_canHold_25 (Nat.le_of_ble_eq_true rfl) (Nat.le_of_ble_eq_true rfl)
set_option maxHeartbeats 4000000 in
set_option maxRecDepth 100000 in
theorem c_X5_changePart_0n (l : Launch) (E : gE) (b0 : Nat) (G : gG) (h : Nat) (so : Int32) (q1 q2 q3 q4 q5 : Option Nat) (hH : G h = some (.inr (5, [.int so, va_rf q1, va_rf q2, va_rf q3, va_rf q4, va_rf q5]))) : gM l yX5_changePart cX5_changePart 4 none 0 0 0 E b0 G [.ref h, .int 0, .null] (pV (fun G1 => G1 = gu G h (.inr (5, [.int so, va_rf q1, va_rf q2, .null, va_rf q4, va_rf q5])))) := by
  refine gM.of (by decide +kernel) (Nat.le_of_ble_eq_true rfl) ?_
  intro pP eP sP mI bP meth cP ls hx hb hr hml hown hlocks hnm hts hK hI hl
  have hl : lv_has ls 4 [(0, .ref h), (1, .int 0), (2, .null)] := hl
  have hown : sP.vm.findClass RX5 = some mI.cls := hown
  refine lv_iload_n hx hb dX5_changePart_0 rfl (lv_at hl 1 rfl) ?_
  refine lv_lookup (off := 27) (tgt := 28) hx hb dX5_changePart_1 (by decide) (by decide) (by decide) ?_
  refine lv_aload_n hx hb dX5_changePart_28 rfl (lv_at hl 0 rfl) ?_
  refine lv_aload_nN hx hb dX5_changePart_29 rfl (lv_at hl 2 rfl) ?_
  refine lv_instN hx hb dX5_changePart_30 ?_
  refine lv_if_eq (tgt := 45) hx hb dX5_changePart_33 (by decide) (fun _ => ?_) (fun c_1 => absurd c_1 (by decide))
  refine lv_anull hx hb dX5_changePart_45 ?_
  refine g_put (index := 23) (ci := 5) hx hb hts inlX5 tyX5 tyX5_ok nmX5 hown hK hI hH rfl 3 (by decide) m_fl_X5_23 (fun _ h9 => h9) rfl rfl rfl (Nat.le_of_ble_eq_true rfl) dX5_changePart_46 (fun H1 L1 hI => ?_)
  refine W.eq (g2 := F0 mI 49 ls []) rfl ?_
  refine lv_goto (tgt := 97) hx hb dX5_changePart_49 (by decide) ?_
  exact g_vret hx hb hr hlocks hI ⟨rfl, rfl⟩ dX5_changePart_97 (Nat.le_of_ble_eq_true rfl) (Nat.le_of_ble_eq_true rfl)
set_option maxHeartbeats 4000000 in
set_option maxRecDepth 100000 in
theorem c_X5_changePart_0r (l : Launch) (E : gE) (b0 : Nat) (G : gG) (a ci : Nat) (fs : List Value) (hG : G a = some (.inr (ci, fs))) (hci : ci ∈ gth) (h : Nat) (so : Int32) (q1 q2 q3 q4 q5 : Option Nat) (hH : G h = some (.inr (5, [.int so, va_rf q1, va_rf q2, va_rf q3, va_rf q4, va_rf q5]))) (hs : gsub ci 7 = true) : gM l yX5_changePart cX5_changePart 4 none 0 0 0 E b0 G [.ref h, .int 0, .ref a] (pV (fun G1 => G1 = gu G h (.inr (5, [.int so, va_rf q1, va_rf q2, .ref a, va_rf q4, va_rf q5])))) := by
  refine gM.of (by decide +kernel) (Nat.le_of_ble_eq_true rfl) ?_
  intro pP eP sP mI bP meth cP ls hx hb hr hml hown hlocks hnm hts hK hI hl
  have hl : lv_has ls 4 [(0, .ref h), (1, .int 0), (2, .ref a)] := hl
  have hown : sP.vm.findClass RX5 = some mI.cls := hown
  refine lv_iload_n hx hb dX5_changePart_0 rfl (lv_at hl 1 rfl) ?_
  refine lv_lookup (off := 27) (tgt := 28) hx hb dX5_changePart_1 (by decide) (by decide) (by decide) ?_
  refine lv_aload_n hx hb dX5_changePart_28 rfl (lv_at hl 0 rfl) ?_
  refine lv_aload_n hx hb dX5_changePart_29 rfl (lv_at hl 2 rfl) ?_
  refine g_inst (index := 21) hx hb hts hown hK hI 7 hG hci (by decide) m_cl_X5_21 dX5_changePart_30 ?_
  refine W.eq (g2 := F0 mI 33 ls [.int 1, .ref h]) (by rw [hs]; rfl) ?_
  refine lv_if_eq (tgt := 45) hx hb dX5_changePart_33 (by decide) (fun c_1 => absurd c_1 (by decide)) (fun _ => ?_)
  refine lv_aload_n hx hb dX5_changePart_36 rfl (lv_at hl 2 rfl) ?_
  refine g_cast (index := 21) hx hb hts hown hK hI 7 hG hci (by decide) hs m_cl_X5_21 dX5_changePart_37 ?_
  refine lv_astore_n (lv' := [(3, .ref a), (0, .ref h), (1, .int 0), (2, .ref a)]) hx hb dX5_changePart_40 rfl hl (by decide) rfl (fun ls hl => ?_)
  refine lv_aload_n hx hb dX5_changePart_41 rfl (lv_at hl 0 rfl) ?_
  refine lv_goto (tgt := 46) hx hb dX5_changePart_42 (by decide) ?_
  refine g_put (index := 23) (ci := 5) hx hb hts inlX5 tyX5 tyX5_ok nmX5 hown hK hI hH rfl 3 (by decide) m_fl_X5_23 (fun _ h9 => h9) rfl rfl rfl (Nat.le_of_ble_eq_true rfl) dX5_changePart_46 (fun H1 L1 hI => ?_)
  refine W.eq (g2 := F0 mI 49 ls []) rfl ?_
  refine lv_goto (tgt := 97) hx hb dX5_changePart_49 (by decide) ?_
  exact g_vret hx hb hr hlocks hI ⟨rfl, rfl⟩ dX5_changePart_97 (Nat.le_of_ble_eq_true rfl) (Nat.le_of_ble_eq_true rfl)
set_option maxHeartbeats 4000000 in
set_option maxRecDepth 100000 in
theorem c_X5_changePart_1n (l : Launch) (E : gE) (b0 : Nat) (G : gG) (h : Nat) (so : Int32) (q1 q2 q3 q4 q5 : Option Nat) (hH : G h = some (.inr (5, [.int so, va_rf q1, va_rf q2, va_rf q3, va_rf q4, va_rf q5]))) : gM l yX5_changePart cX5_changePart 4 none 0 0 0 E b0 G [.ref h, .int 1, .null] (pV (fun G1 => G1 = gu G h (.inr (5, [.int so, va_rf q1, va_rf q2, va_rf q3, .null, va_rf q5])))) := by
  refine gM.of (by decide +kernel) (Nat.le_of_ble_eq_true rfl) ?_
  intro pP eP sP mI bP meth cP ls hx hb hr hml hown hlocks hnm hts hK hI hl
  have hl : lv_has ls 4 [(0, .ref h), (1, .int 1), (2, .null)] := hl
  have hown : sP.vm.findClass RX5 = some mI.cls := hown
  refine lv_iload_n hx hb dX5_changePart_0 rfl (lv_at hl 1 rfl) ?_
  refine lv_lookup (off := 51) (tgt := 52) hx hb dX5_changePart_1 (by decide) (by decide) (by decide) ?_
  refine lv_aload_n hx hb dX5_changePart_52 rfl (lv_at hl 0 rfl) ?_
  refine lv_aload_nN hx hb dX5_changePart_53 rfl (lv_at hl 2 rfl) ?_
  refine lv_instN hx hb dX5_changePart_54 ?_
  refine lv_if_eq (tgt := 69) hx hb dX5_changePart_57 (by decide) (fun _ => ?_) (fun c_1 => absurd c_1 (by decide))
  refine lv_anull hx hb dX5_changePart_69 ?_
  refine g_put (index := 29) (ci := 5) hx hb hts inlX5 tyX5 tyX5_ok nmX5 hown hK hI hH rfl 4 (by decide) m_fl_X5_29 (fun _ h9 => h9) rfl rfl rfl (Nat.le_of_ble_eq_true rfl) dX5_changePart_70 (fun H1 L1 hI => ?_)
  refine W.eq (g2 := F0 mI 73 ls []) rfl ?_
  refine lv_goto (tgt := 97) hx hb dX5_changePart_73 (by decide) ?_
  exact g_vret hx hb hr hlocks hI ⟨rfl, rfl⟩ dX5_changePart_97 (Nat.le_of_ble_eq_true rfl) (Nat.le_of_ble_eq_true rfl)
set_option maxHeartbeats 4000000 in
set_option maxRecDepth 100000 in
theorem c_X5_changePart_1r (l : Launch) (E : gE) (b0 : Nat) (G : gG) (a ci : Nat) (fs : List Value) (hG : G a = some (.inr (ci, fs))) (hci : ci ∈ gth) (h : Nat) (so : Int32) (q1 q2 q3 q4 q5 : Option Nat) (hH : G h = some (.inr (5, [.int so, va_rf q1, va_rf q2, va_rf q3, va_rf q4, va_rf q5]))) (hs : gsub ci 6 = true) : gM l yX5_changePart cX5_changePart 4 none 0 0 0 E b0 G [.ref h, .int 1, .ref a] (pV (fun G1 => G1 = gu G h (.inr (5, [.int so, va_rf q1, va_rf q2, va_rf q3, .ref a, va_rf q5])))) := by
  refine gM.of (by decide +kernel) (Nat.le_of_ble_eq_true rfl) ?_
  intro pP eP sP mI bP meth cP ls hx hb hr hml hown hlocks hnm hts hK hI hl
  have hl : lv_has ls 4 [(0, .ref h), (1, .int 1), (2, .ref a)] := hl
  have hown : sP.vm.findClass RX5 = some mI.cls := hown
  refine lv_iload_n hx hb dX5_changePart_0 rfl (lv_at hl 1 rfl) ?_
  refine lv_lookup (off := 51) (tgt := 52) hx hb dX5_changePart_1 (by decide) (by decide) (by decide) ?_
  refine lv_aload_n hx hb dX5_changePart_52 rfl (lv_at hl 0 rfl) ?_
  refine lv_aload_n hx hb dX5_changePart_53 rfl (lv_at hl 2 rfl) ?_
  refine g_inst (index := 27) hx hb hts hown hK hI 6 hG hci (by decide) m_cl_X5_27 dX5_changePart_54 ?_
  refine W.eq (g2 := F0 mI 57 ls [.int 1, .ref h]) (by rw [hs]; rfl) ?_
  refine lv_if_eq (tgt := 69) hx hb dX5_changePart_57 (by decide) (fun c_1 => absurd c_1 (by decide)) (fun _ => ?_)
  refine lv_aload_n hx hb dX5_changePart_60 rfl (lv_at hl 2 rfl) ?_
  refine g_cast (index := 27) hx hb hts hown hK hI 6 hG hci (by decide) hs m_cl_X5_27 dX5_changePart_61 ?_
  refine lv_astore_n (lv' := [(3, .ref a), (0, .ref h), (1, .int 1), (2, .ref a)]) hx hb dX5_changePart_64 rfl hl (by decide) rfl (fun ls hl => ?_)
  refine lv_aload_n hx hb dX5_changePart_65 rfl (lv_at hl 0 rfl) ?_
  refine lv_goto (tgt := 70) hx hb dX5_changePart_66 (by decide) ?_
  refine g_put (index := 29) (ci := 5) hx hb hts inlX5 tyX5 tyX5_ok nmX5 hown hK hI hH rfl 4 (by decide) m_fl_X5_29 (fun _ h9 => h9) rfl rfl rfl (Nat.le_of_ble_eq_true rfl) dX5_changePart_70 (fun H1 L1 hI => ?_)
  refine W.eq (g2 := F0 mI 73 ls []) rfl ?_
  refine lv_goto (tgt := 97) hx hb dX5_changePart_73 (by decide) ?_
  exact g_vret hx hb hr hlocks hI ⟨rfl, rfl⟩ dX5_changePart_97 (Nat.le_of_ble_eq_true rfl) (Nat.le_of_ble_eq_true rfl)
set_option maxHeartbeats 4000000 in
set_option maxRecDepth 100000 in
theorem c_X5_changePart_2n (l : Launch) (E : gE) (b0 : Nat) (G : gG) (h : Nat) (so : Int32) (q1 q2 q3 q4 q5 : Option Nat) (hH : G h = some (.inr (5, [.int so, va_rf q1, va_rf q2, va_rf q3, va_rf q4, va_rf q5]))) : gM l yX5_changePart cX5_changePart 4 none 0 0 0 E b0 G [.ref h, .int 2, .null] (pV (fun G1 => G1 = gu G h (.inr (5, [.int so, va_rf q1, va_rf q2, va_rf q3, va_rf q4, .null])))) := by
  refine gM.of (by decide +kernel) (Nat.le_of_ble_eq_true rfl) ?_
  intro pP eP sP mI bP meth cP ls hx hb hr hml hown hlocks hnm hts hK hI hl
  have hl : lv_has ls 4 [(0, .ref h), (1, .int 2), (2, .null)] := hl
  have hown : sP.vm.findClass RX5 = some mI.cls := hown
  refine lv_iload_n hx hb dX5_changePart_0 rfl (lv_at hl 1 rfl) ?_
  refine lv_lookup (off := 75) (tgt := 76) hx hb dX5_changePart_1 (by decide) (by decide) (by decide) ?_
  refine lv_aload_n hx hb dX5_changePart_76 rfl (lv_at hl 0 rfl) ?_
  refine lv_aload_nN hx hb dX5_changePart_77 rfl (lv_at hl 2 rfl) ?_
  refine lv_instN hx hb dX5_changePart_78 ?_
  refine lv_if_eq (tgt := 93) hx hb dX5_changePart_81 (by decide) (fun _ => ?_) (fun c_1 => absurd c_1 (by decide))
  refine lv_anull hx hb dX5_changePart_93 ?_
  refine g_put (index := 35) (ci := 5) hx hb hts inlX5 tyX5 tyX5_ok nmX5 hown hK hI hH rfl 5 (by decide) m_fl_X5_35 (fun _ h9 => h9) rfl rfl rfl (Nat.le_of_ble_eq_true rfl) dX5_changePart_94 (fun H1 L1 hI => ?_)
  refine W.eq (g2 := F0 mI 97 ls []) rfl ?_
  exact g_vret hx hb hr hlocks hI ⟨rfl, rfl⟩ dX5_changePart_97 (Nat.le_of_ble_eq_true rfl) (Nat.le_of_ble_eq_true rfl)
set_option maxHeartbeats 4000000 in
set_option maxRecDepth 100000 in
theorem c_X5_changePart_2r (l : Launch) (E : gE) (b0 : Nat) (G : gG) (a ci : Nat) (fs : List Value) (hG : G a = some (.inr (ci, fs))) (hci : ci ∈ gth) (h : Nat) (so : Int32) (q1 q2 q3 q4 q5 : Option Nat) (hH : G h = some (.inr (5, [.int so, va_rf q1, va_rf q2, va_rf q3, va_rf q4, va_rf q5]))) (hs : gsub ci 0 = true) : gM l yX5_changePart cX5_changePart 4 none 0 0 0 E b0 G [.ref h, .int 2, .ref a] (pV (fun G1 => G1 = gu G h (.inr (5, [.int so, va_rf q1, va_rf q2, va_rf q3, va_rf q4, .ref a])))) := by
  refine gM.of (by decide +kernel) (Nat.le_of_ble_eq_true rfl) ?_
  intro pP eP sP mI bP meth cP ls hx hb hr hml hown hlocks hnm hts hK hI hl
  have hl : lv_has ls 4 [(0, .ref h), (1, .int 2), (2, .ref a)] := hl
  have hown : sP.vm.findClass RX5 = some mI.cls := hown
  refine lv_iload_n hx hb dX5_changePart_0 rfl (lv_at hl 1 rfl) ?_
  refine lv_lookup (off := 75) (tgt := 76) hx hb dX5_changePart_1 (by decide) (by decide) (by decide) ?_
  refine lv_aload_n hx hb dX5_changePart_76 rfl (lv_at hl 0 rfl) ?_
  refine lv_aload_n hx hb dX5_changePart_77 rfl (lv_at hl 2 rfl) ?_
  refine g_inst (index := 33) hx hb hts hown hK hI 0 hG hci (by decide) m_cl_X5_33 dX5_changePart_78 ?_
  refine W.eq (g2 := F0 mI 81 ls [.int 1, .ref h]) (by rw [hs]; rfl) ?_
  refine lv_if_eq (tgt := 93) hx hb dX5_changePart_81 (by decide) (fun c_1 => absurd c_1 (by decide)) (fun _ => ?_)
  refine lv_aload_n hx hb dX5_changePart_84 rfl (lv_at hl 2 rfl) ?_
  refine g_cast (index := 33) hx hb hts hown hK hI 0 hG hci (by decide) hs m_cl_X5_33 dX5_changePart_85 ?_
  refine lv_astore_n (lv' := [(3, .ref a), (0, .ref h), (1, .int 2), (2, .ref a)]) hx hb dX5_changePart_88 rfl hl (by decide) rfl (fun ls hl => ?_)
  refine lv_aload_n hx hb dX5_changePart_89 rfl (lv_at hl 0 rfl) ?_
  refine lv_goto (tgt := 94) hx hb dX5_changePart_90 (by decide) ?_
  refine g_put (index := 35) (ci := 5) hx hb hts inlX5 tyX5 tyX5_ok nmX5 hown hK hI hH rfl 5 (by decide) m_fl_X5_35 (fun _ h9 => h9) rfl rfl rfl (Nat.le_of_ble_eq_true rfl) dX5_changePart_94 (fun H1 L1 hI => ?_)
  refine W.eq (g2 := F0 mI 97 ls []) rfl ?_
  exact g_vret hx hb hr hlocks hI ⟨rfl, rfl⟩ dX5_changePart_97 (Nat.le_of_ble_eq_true rfl) (Nat.le_of_ble_eq_true rfl)
