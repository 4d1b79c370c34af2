theorem gu_uu (G : gG) (a : Nat) (x y : va_E) : gu (gu G a x) a y = gu G a y := by
  funext q
  by_cases h : q = a
  · simp [gu, h]
  · simp [gu, h]
section ANL
variable {p : Program} {l : Launch} {e : Env} {R : Room} {s : State} {m : MethodId} {args : Array Value} {below : List Frame} {meth : Method} {c : Code} {H : Heap} {locs : List Loc} {cells slots : Nat} {Q : State → Prop}
variable {cc : ByteArray} {pc : Nat} {ls : Array Slot} {rest : List Value}
theorem lv_anull (hx : p.tables.exec = Jvm.exec) (hb : c.code = cc) (hdg : decode cc pc = .ok (.aconst_null, 1)) (k : W p l e R s m args below meth c H locs cells slots Q (F0 m (pc + 1) ls (.null :: rest))) : W p l e R s m args below meth c H locs cells slots Q (F0 m pc ls rest) := by
  intro T hT X
  obtain ⟨t, a, b⟩ := k T hT X
  refine ⟨t, ?_, b⟩
  jvm_step X.here [X.here.top, hx, hb, hdg]
  exact a
end ANL
set_option maxHeartbeats 4000000 in
set_option maxRecDepth 100000 in
theorem c_X9_init_0 (l : Launch) (E : gE) (b0 : Nat) (G : gG) (a : Nat) (so : Int32) (hG : G a = some (.inr (0, [.int 0, .int 0]))) : gM l yX9_init cX9_init 2 none 1 0 0 E b0 G [.ref a, .int so] (pV (fun G1 => G1 = gu G a (.inr (0, [.int so, .int 0])))) := by
  refine gM.of (by decide +kernel) (Nat.le_of_ble_eq_true rfl) ?_
  intro pP eP sP mI bP meth cP ls hx hb hr hml hown hlocks hnm hts hK hI hl
  have hl : lv_has ls 2 [(0, .ref a), (1, .int so)] := hl
  have hown : sP.vm.findClass RX9 = some mI.cls := hown
  refine lv_aload_n hx hb dX9_init_0 rfl (lv_at hl 0 rfl) ?_
  refine W.objInit hx hb hown (hts _ m_ml_X9_1) (hts _ m_im_objectInit) (hts _ m_co_objectInit) rfl (by rw [hml]; exact hl.1) rfl dX9_init_1 (Nat.le_of_ble_eq_true rfl) (Nat.le_of_ble_eq_true rfl) ?_
  refine W.eq (g2 := F0 mI 4 ls []) rfl ?_
  refine lv_aload_n hx hb dX9_init_4 rfl (lv_at hl 0 rfl) ?_
  refine lv_iload_n hx hb dX9_init_5 rfl (lv_at hl 1 rfl) ?_
  refine g_putF (index := 7) (ci := 0) hx hb hts inlX0 tyX0 tyX0_ok nmX0 hown hK hI hG rfl 0 (by decide) m_fl_X9_7 (fun _ h9 => h9) rfl hnm rfl rfl rfl (Nat.le_of_ble_eq_true rfl) dX9_init_6 (fun H1 L1 hI => ?_)
  refine W.eq (g2 := F0 mI 9 ls []) rfl ?_
  exact g_vret hx hb hr hlocks hI ⟨rfl, by first | rfl | (simp only [gu_uu]; rfl)⟩ dX9_init_9 (Nat.le_of_ble_eq_true rfl) (Nat.le_of_ble_eq_true rfl)
set_option maxHeartbeats 4000000 in
set_option maxRecDepth 100000 in
theorem c_X9_init_1 (l : Launch) (E : gE) (b0 : Nat) (G : gG) (a : Nat) (so : Int32) (hG : G a = some (.inr (1, [.int 0, .int 0, .int 0]))) : gM l yX9_init cX9_init 2 none 1 0 0 E b0 G [.ref a, .int so] (pV (fun G1 => G1 = gu G a (.inr (1, [.int 0, .int so, .int 0])))) := by
  refine gM.of (by decide +kernel) (Nat.le_of_ble_eq_true rfl) ?_
  intro pP eP sP mI bP meth cP ls hx hb hr hml hown hlocks hnm hts hK hI hl
  have hl : lv_has ls 2 [(0, .ref a), (1, .int so)] := hl
  have hown : sP.vm.findClass RX9 = some mI.cls := hown
  refine lv_aload_n hx hb dX9_init_0 rfl (lv_at hl 0 rfl) ?_
  refine W.objInit hx hb hown (hts _ m_ml_X9_1) (hts _ m_im_objectInit) (hts _ m_co_objectInit) rfl (by rw [hml]; exact hl.1) rfl dX9_init_1 (Nat.le_of_ble_eq_true rfl) (Nat.le_of_ble_eq_true rfl) ?_
  refine W.eq (g2 := F0 mI 4 ls []) rfl ?_
  refine lv_aload_n hx hb dX9_init_4 rfl (lv_at hl 0 rfl) ?_
  refine lv_iload_n hx hb dX9_init_5 rfl (lv_at hl 1 rfl) ?_
  refine g_putF (index := 7) (ci := 1) hx hb hts inlX1 tyX1 tyX1_ok nmX1 hown hK hI hG rfl 1 (by decide) m_fl_X9_7 (fun _ h9 => h9) rfl hnm rfl rfl rfl (Nat.le_of_ble_eq_true rfl) dX9_init_6 (fun H1 L1 hI => ?_)
  refine W.eq (g2 := F0 mI 9 ls []) rfl ?_
  exact g_vret hx hb hr hlocks hI ⟨rfl, by first | rfl | (simp only [gu_uu]; rfl)⟩ dX9_init_9 (Nat.le_of_ble_eq_true rfl) (Nat.le_of_ble_eq_true rfl)
set_option maxHeartbeats 4000000 in
set_option maxRecDepth 100000 in
theorem c_X9_init_3 (l : Launch) (E : gE) (b0 : Nat) (G : gG) (a : Nat) (so : Int32) (hG : G a = some (.inr (3, [.int 0, .int 0]))) : gM l yX9_init cX9_init 2 none 1 0 0 E b0 G [.ref a, .int so] (pV (fun G1 => G1 = gu G a (.inr (3, [.int 0, .int so])))) := by
  refine gM.of (by decide +kernel) (Nat.le_of_ble_eq_true rfl) ?_
  intro pP eP sP mI bP meth cP ls hx hb hr hml hown hlocks hnm hts hK hI hl
  have hl : lv_has ls 2 [(0, .ref a), (1, .int so)] := hl
  have hown : sP.vm.findClass RX9 = some mI.cls := hown
  refine lv_aload_n hx hb dX9_init_0 rfl (lv_at hl 0 rfl) ?_
  refine W.objInit hx hb hown (hts _ m_ml_X9_1) (hts _ m_im_objectInit) (hts _ m_co_objectInit) rfl (by rw [hml]; exact hl.1) rfl dX9_init_1 (Nat.le_of_ble_eq_true rfl) (Nat.le_of_ble_eq_true rfl) ?_
  refine W.eq (g2 := F0 mI 4 ls []) rfl ?_
  refine lv_aload_n hx hb dX9_init_4 rfl (lv_at hl 0 rfl) ?_
  refine lv_iload_n hx hb dX9_init_5 rfl (lv_at hl 1 rfl) ?_
  refine g_putF (index := 7) (ci := 3) hx hb hts inlX3 tyX3 tyX3_ok nmX3 hown hK hI hG rfl 1 (by decide) m_fl_X9_7 (fun _ h9 => h9) rfl hnm rfl rfl rfl (Nat.le_of_ble_eq_true rfl) dX9_init_6 (fun H1 L1 hI => ?_)
  refine W.eq (g2 := F0 mI 9 ls []) rfl ?_
  exact g_vret hx hb hr hlocks hI ⟨rfl, by first | rfl | (simp only [gu_uu]; rfl)⟩ dX9_init_9 (Nat.le_of_ble_eq_true rfl) (Nat.le_of_ble_eq_true rfl)
set_option maxHeartbeats 4000000 in
set_option maxRecDepth 100000 in
theorem c_X9_init_4 (l : Launch) (E : gE) (b0 : Nat) (G : gG) (a : Nat) (so : Int32) (hG : G a = some (.inr (4, [.int 0, .int 0]))) : gM l yX9_init cX9_init 2 none 1 0 0 E b0 G [.ref a, .int so] (pV (fun G1 => G1 = gu G a (.inr (4, [.int so, .int 0])))) := by
  refine gM.of (by decide +kernel) (Nat.le_of_ble_eq_true rfl) ?_
  intro pP eP sP mI bP meth cP ls hx hb hr hml hown hlocks hnm hts hK hI hl
  have hl : lv_has ls 2 [(0, .ref a), (1, .int so)] := hl
  have hown : sP.vm.findClass RX9 = some mI.cls := hown
  refine lv_aload_n hx hb dX9_init_0 rfl (lv_at hl 0 rfl) ?_
  refine W.objInit hx hb hown (hts _ m_ml_X9_1) (hts _ m_im_objectInit) (hts _ m_co_objectInit) rfl (by rw [hml]; exact hl.1) rfl dX9_init_1 (Nat.le_of_ble_eq_true rfl) (Nat.le_of_ble_eq_true rfl) ?_
  refine W.eq (g2 := F0 mI 4 ls []) rfl ?_
  refine lv_aload_n hx hb dX9_init_4 rfl (lv_at hl 0 rfl) ?_
  refine lv_iload_n hx hb dX9_init_5 rfl (lv_at hl 1 rfl) ?_
  refine g_putF (index := 7) (ci := 4) hx hb hts inlX4 tyX4 tyX4_ok nmX4 hown hK hI hG rfl 0 (by decide) m_fl_X9_7 (fun _ h9 => h9) rfl hnm rfl rfl rfl (Nat.le_of_ble_eq_true rfl) dX9_init_6 (fun H1 L1 hI => ?_)
  refine W.eq (g2 := F0 mI 9 ls []) rfl ?_
  exact g_vret hx hb hr hlocks hI ⟨rfl, by first | rfl | (simp only [gu_uu]; rfl)⟩ dX9_init_9 (Nat.le_of_ble_eq_true rfl) (Nat.le_of_ble_eq_true rfl)
set_option maxHeartbeats 4000000 in
set_option maxRecDepth 100000 in
theorem c_X9_init_5 (l : Launch) (E : gE) (b0 : Nat) (G : gG) (a : Nat) (so : Int32) (hG : G a = some (.inr (5, [.int 0, .null, .null, .null, .null, .null]))) : gM l yX9_init cX9_init 2 none 1 0 0 E b0 G [.ref a, .int so] (pV (fun G1 => G1 = gu G a (.inr (5, [.int so, .null, .null, .null, .null, .null])))) := by
  refine gM.of (by decide +kernel) (Nat.le_of_ble_eq_true rfl) ?_
  intro pP eP sP mI bP meth cP ls hx hb hr hml hown hlocks hnm hts hK hI hl
  have hl : lv_has ls 2 [(0, .ref a), (1, .int so)] := hl
  have hown : sP.vm.findClass RX9 = some mI.cls := hown
  refine lv_aload_n hx hb dX9_init_0 rfl (lv_at hl 0 rfl) ?_
  refine W.objInit hx hb hown (hts _ m_ml_X9_1) (hts _ m_im_objectInit) (hts _ m_co_objectInit) rfl (by rw [hml]; exact hl.1) rfl dX9_init_1 (Nat.le_of_ble_eq_true rfl) (Nat.le_of_ble_eq_true rfl) ?_
  refine W.eq (g2 := F0 mI 4 ls []) rfl ?_
  refine lv_aload_n hx hb dX9_init_4 rfl (lv_at hl 0 rfl) ?_
  refine lv_iload_n hx hb dX9_init_5 rfl (lv_at hl 1 rfl) ?_
  refine g_putF (index := 7) (ci := 5) hx hb hts inlX5 tyX5 tyX5_ok nmX5 hown hK hI hG rfl 0 (by decide) m_fl_X9_7 (fun _ h9 => h9) rfl hnm rfl rfl rfl (Nat.le_of_ble_eq_true rfl) dX9_init_6 (fun H1 L1 hI => ?_)
  refine W.eq (g2 := F0 mI 9 ls []) rfl ?_
  exact g_vret hx hb hr hlocks hI ⟨rfl, by first | rfl | (simp only [gu_uu]; rfl)⟩ dX9_init_9 (Nat.le_of_ble_eq_true rfl) (Nat.le_of_ble_eq_true rfl)
set_option maxHeartbeats 4000000 in
set_option maxRecDepth 100000 in
theorem c_X9_init_6 (l : Launch) (E : gE) (b0 : Nat) (G : gG) (a : Nat) (so : Int32) (hG : G a = some (.inr (6, [.int 0, .int 0, .int 0]))) : gM l yX9_init cX9_init 2 none 1 0 0 E b0 G [.ref a, .int so] (pV (fun G1 => G1 = gu G a (.inr (6, [.int so, .int 0, .int 0])))) := by
  refine gM.of (by decide +kernel) (Nat.le_of_ble_eq_true rfl) ?_
  intro pP eP sP mI bP meth cP ls hx hb hr hml hown hlocks hnm hts hK hI hl
  have hl : lv_has ls 2 [(0, .ref a), (1, .int so)] := hl
  have hown : sP.vm.findClass RX9 = some mI.cls := hown
  refine lv_aload_n hx hb dX9_init_0 rfl (lv_at hl 0 rfl) ?_
  refine W.objInit hx hb hown (hts _ m_ml_X9_1) (hts _ m_im_objectInit) (hts _ m_co_objectInit) rfl (by rw [hml]; exact hl.1) rfl dX9_init_1 (Nat.le_of_ble_eq_true rfl) (Nat.le_of_ble_eq_true rfl) ?_
  refine W.eq (g2 := F0 mI 4 ls []) rfl ?_
  refine lv_aload_n hx hb dX9_init_4 rfl (lv_at hl 0 rfl) ?_
  refine lv_iload_n hx hb dX9_init_5 rfl (lv_at hl 1 rfl) ?_
  refine g_putF (index := 7) (ci := 6) hx hb hts inlX7 tyX7 tyX7_ok nmX7 hown hK hI hG rfl 0 (by decide) m_fl_X9_7 (fun _ h9 => h9) rfl hnm rfl rfl rfl (Nat.le_of_ble_eq_true rfl) dX9_init_6 (fun H1 L1 hI => ?_)
  refine W.eq (g2 := F0 mI 9 ls []) rfl ?_
  exact g_vret hx hb hr hlocks hI ⟨rfl, by first | rfl | (simp only [gu_uu]; rfl)⟩ dX9_init_9 (Nat.le_of_ble_eq_true rfl) (Nat.le_of_ble_eq_true rfl)
set_option maxHeartbeats 4000000 in
set_option maxRecDepth 100000 in
theorem c_X9_init_7 (l : Launch) (E : gE) (b0 : Nat) (G : gG) (a : Nat) (so : Int32) (hG : G a = some (.inr (7, [.int 0, .int 0]))) : gM l yX9_init cX9_init 2 none 1 0 0 E b0 G [.ref a, .int so] (pV (fun G1 => G1 = gu G a (.inr (7, [.int 0, .int so])))) := by
  refine gM.of (by decide +kernel) (Nat.le_of_ble_eq_true rfl) ?_
  intro pP eP sP mI bP meth cP ls hx hb hr hml hown hlocks hnm hts hK hI hl
  have hl : lv_has ls 2 [(0, .ref a), (1, .int so)] := hl
  have hown : sP.vm.findClass RX9 = some mI.cls := hown
  refine lv_aload_n hx hb dX9_init_0 rfl (lv_at hl 0 rfl) ?_
  refine W.objInit hx hb hown (hts _ m_ml_X9_1) (hts _ m_im_objectInit) (hts _ m_co_objectInit) rfl (by rw [hml]; exact hl.1) rfl dX9_init_1 (Nat.le_of_ble_eq_true rfl) (Nat.le_of_ble_eq_true rfl) ?_
  refine W.eq (g2 := F0 mI 4 ls []) rfl ?_
  refine lv_aload_n hx hb dX9_init_4 rfl (lv_at hl 0 rfl) ?_
  refine lv_iload_n hx hb dX9_init_5 rfl (lv_at hl 1 rfl) ?_
  refine g_putF (index := 7) (ci := 7) hx hb hts inlX8 tyX8 tyX8_ok nmX8 hown hK hI hG rfl 1 (by decide) m_fl_X9_7 (fun _ h9 => h9) rfl hnm rfl rfl rfl (Nat.le_of_ble_eq_true rfl) dX9_init_6 (fun H1 L1 hI => ?_)
  refine W.eq (g2 := F0 mI 9 ls []) rfl ?_
  exact g_vret hx hb hr hlocks hI ⟨rfl, by first | rfl | (simp only [gu_uu]; rfl)⟩ dX9_init_9 (Nat.le_of_ble_eq_true rfl) (Nat.le_of_ble_eq_true rfl)
set_option maxHeartbeats 4000000 in
set_option maxRecDepth 100000 in
theorem c_X4_init_4 (l : Launch) (E : gE) (b0 : Nat) (G : gG) (a : Nat) (so : Int32) (v : Int32) (hG : G a = some (.inr (4, [.int 0, .int 0]))) : gM l yX4_init cX4_init 3 none 2 0 0 E b0 G [.ref a, .int so, .int v] (pV (fun G1 => G1 = gu G a (.inr (4, [.int so, .int v])))) := by
  refine gM.of (by decide +kernel) (Nat.le_of_ble_eq_true rfl) ?_
  intro pP eP sP mI bP meth cP ls hx hb hr hml hown hlocks hnm hts hK hI hl
  have hl : lv_has ls 3 [(0, .ref a), (1, .int so), (2, .int v)] := hl
  have hown : sP.vm.findClass RX4 = some mI.cls := hown
  refine lv_aload_n hx hb dX4_init_0 rfl (lv_at hl 0 rfl) ?_
  refine lv_iload_n hx hb dX4_init_1 rfl (lv_at hl 1 rfl) ?_
  refine g_callI (own := RX4) (index := 1) (n := 1) hx hb hml hown hts (c_X9_init_4 l E b0 _ a so hG) m_ml_X4_1 m_im_X9_init m_in_X9 m_co_X9_init rfl (by decide +kernel) ⟨Nat.le_of_ble_eq_true rfl, Nat.le_of_ble_eq_true rfl⟩ ⟨by first | exact Nat.le_of_ble_eq_true rfl | (show _ ≤ 0; omega), by first | exact Nat.le_of_ble_eq_true rfl | (show _ ≤ 0; omega)⟩ rfl hl.1 rfl (Nat.le_of_ble_eq_true rfl) dX4_init_2 hK hI (fun r G1 H1 L1 hp hI => ?_)
  obtain ⟨rfl, rfl⟩ := hp
  refine W.eq (g2 := F0 mI 5 ls []) rfl ?_
  refine lv_aload_n hx hb dX4_init_5 rfl (lv_at hl 0 rfl) ?_
  refine lv_iload_n hx hb dX4_init_6 rfl (lv_at hl 2 rfl) ?_
  refine g_put (index := 7) (ci := 4) hx hb hts inlX4 tyX4 tyX4_ok nmX4 hown hK hI (gu_s _ _ _) rfl 1 (by decide) m_fl_X4_7 (fun _ h9 => h9) rfl rfl rfl (Nat.le_of_ble_eq_true rfl) dX4_init_7 (fun H1 L1 hI => ?_)
  refine W.eq (g2 := F0 mI 10 ls []) rfl ?_
  exact g_vret hx hb hr hlocks hI ⟨rfl, by first | rfl | (simp only [gu_uu]; rfl)⟩ dX4_init_10 (Nat.le_of_ble_eq_true rfl) (Nat.le_of_ble_eq_true rfl)
set_option maxHeartbeats 4000000 in
set_option maxRecDepth 100000 in
theorem c_X4_init_1 (l : Launch) (E : gE) (b0 : Nat) (G : gG) (a : Nat) (so : Int32) (v : Int32) (hG : G a = some (.inr (1, [.int 0, .int 0, .int 0]))) : gM l yX4_init cX4_init 3 none 2 0 0 E b0 G [.ref a, .int so, .int v] (pV (fun G1 => G1 = gu G a (.inr (1, [.int v, .int so, .int 0])))) := by
  refine gM.of (by decide +kernel) (Nat.le_of_ble_eq_true rfl) ?_
  intro pP eP sP mI bP meth cP ls hx hb hr hml hown hlocks hnm hts hK hI hl
  have hl : lv_has ls 3 [(0, .ref a), (1, .int so), (2, .int v)] := hl
  have hown : sP.vm.findClass RX4 = some mI.cls := hown
  refine lv_aload_n hx hb dX4_init_0 rfl (lv_at hl 0 rfl) ?_
  refine lv_iload_n hx hb dX4_init_1 rfl (lv_at hl 1 rfl) ?_
  refine g_callI (own := RX4) (index := 1) (n := 1) hx hb hml hown hts (c_X9_init_1 l E b0 _ a so hG) m_ml_X4_1 m_im_X9_init m_in_X9 m_co_X9_init rfl (by decide +kernel) ⟨Nat.le_of_ble_eq_true rfl, Nat.le_of_ble_eq_true rfl⟩ ⟨by first | exact Nat.le_of_ble_eq_true rfl | (show _ ≤ 0; omega), by first | exact Nat.le_of_ble_eq_true rfl | (show _ ≤ 0; omega)⟩ rfl hl.1 rfl (Nat.le_of_ble_eq_true rfl) dX4_init_2 hK hI (fun r G1 H1 L1 hp hI => ?_)
  obtain ⟨rfl, rfl⟩ := hp
  refine W.eq (g2 := F0 mI 5 ls []) rfl ?_
  refine lv_aload_n hx hb dX4_init_5 rfl (lv_at hl 0 rfl) ?_
  refine lv_iload_n hx hb dX4_init_6 rfl (lv_at hl 2 rfl) ?_
  refine g_put (index := 7) (ci := 1) hx hb hts inlX1 tyX1 tyX1_ok nmX1 hown hK hI (gu_s _ _ _) rfl 0 (by decide) m_fl_X4_7 (fun _ h9 => h9) rfl rfl rfl (Nat.le_of_ble_eq_true rfl) dX4_init_7 (fun H1 L1 hI => ?_)
  refine W.eq (g2 := F0 mI 10 ls []) rfl ?_
  exact g_vret hx hb hr hlocks hI ⟨rfl, by first | rfl | (simp only [gu_uu]; rfl)⟩ dX4_init_10 (Nat.le_of_ble_eq_true rfl) (Nat.le_of_ble_eq_true rfl)
set_option maxHeartbeats 4000000 in
set_option maxRecDepth 100000 in
theorem c_X6_init_3 (l : Launch) (E : gE) (b0 : Nat) (G : gG) (a : Nat) (so : Int32) (v : Int32) (hG : G a = some (.inr (3, [.int 0, .int 0]))) : gM l yX6_init cX6_init 3 none 2 0 0 E b0 G [.ref a, .int so, .int v] (pV (fun G1 => G1 = gu G a (.inr (3, [.int v, .int so])))) := by
  refine gM.of (by decide +kernel) (Nat.le_of_ble_eq_true rfl) ?_
  intro pP eP sP mI bP meth cP ls hx hb hr hml hown hlocks hnm hts hK hI hl
  have hl : lv_has ls 3 [(0, .ref a), (1, .int so), (2, .int v)] := hl
  have hown : sP.vm.findClass RX6 = some mI.cls := hown
  refine lv_aload_n hx hb dX6_init_0 rfl (lv_at hl 0 rfl) ?_
  refine lv_iload_n hx hb dX6_init_1 rfl (lv_at hl 1 rfl) ?_
  refine g_callI (own := RX6) (index := 1) (n := 1) hx hb hml hown hts (c_X9_init_3 l E b0 _ a so hG) m_ml_X6_1 m_im_X9_init m_in_X9 m_co_X9_init rfl (by decide +kernel) ⟨Nat.le_of_ble_eq_true rfl, Nat.le_of_ble_eq_true rfl⟩ ⟨by first | exact Nat.le_of_ble_eq_true rfl | (show _ ≤ 0; omega), by first | exact Nat.le_of_ble_eq_true rfl | (show _ ≤ 0; omega)⟩ rfl hl.1 rfl (Nat.le_of_ble_eq_true rfl) dX6_init_2 hK hI (fun r G1 H1 L1 hp hI => ?_)
  obtain ⟨rfl, rfl⟩ := hp
  refine W.eq (g2 := F0 mI 5 ls []) rfl ?_
  refine lv_aload_n hx hb dX6_init_5 rfl (lv_at hl 0 rfl) ?_
  refine lv_iload_n hx hb dX6_init_6 rfl (lv_at hl 2 rfl) ?_
  refine g_put (index := 7) (ci := 3) hx hb hts inlX3 tyX3 tyX3_ok nmX3 hown hK hI (gu_s _ _ _) rfl 0 (by decide) m_fl_X6_7 (fun _ h9 => h9) rfl rfl rfl (Nat.le_of_ble_eq_true rfl) dX6_init_7 (fun H1 L1 hI => ?_)
  refine W.eq (g2 := F0 mI 10 ls []) rfl ?_
  exact g_vret hx hb hr hlocks hI ⟨rfl, by first | rfl | (simp only [gu_uu]; rfl)⟩ dX6_init_10 (Nat.le_of_ble_eq_true rfl) (Nat.le_of_ble_eq_true rfl)
set_option maxHeartbeats 4000000 in
set_option maxRecDepth 100000 in
theorem c_X6_init_7 (l : Launch) (E : gE) (b0 : Nat) (G : gG) (a : Nat) (so : Int32) (v : Int32) (hG : G a = some (.inr (7, [.int 0, .int 0]))) : gM l yX6_init cX6_init 3 none 2 0 0 E b0 G [.ref a, .int so, .int v] (pV (fun G1 => G1 = gu G a (.inr (7, [.int v, .int so])))) := by
  refine gM.of (by decide +kernel) (Nat.le_of_ble_eq_true rfl) ?_
  intro pP eP sP mI bP meth cP ls hx hb hr hml hown hlocks hnm hts hK hI hl
  have hl : lv_has ls 3 [(0, .ref a), (1, .int so), (2, .int v)] := hl
  have hown : sP.vm.findClass RX6 = some mI.cls := hown
  refine lv_aload_n hx hb dX6_init_0 rfl (lv_at hl 0 rfl) ?_
  refine lv_iload_n hx hb dX6_init_1 rfl (lv_at hl 1 rfl) ?_
  refine g_callI (own := RX6) (index := 1) (n := 1) hx hb hml hown hts (c_X9_init_7 l E b0 _ a so hG) m_ml_X6_1 m_im_X9_init m_in_X9 m_co_X9_init rfl (by decide +kernel) ⟨Nat.le_of_ble_eq_true rfl, Nat.le_of_ble_eq_true rfl⟩ ⟨by first | exact Nat.le_of_ble_eq_true rfl | (show _ ≤ 0; omega), by first | exact Nat.le_of_ble_eq_true rfl | (show _ ≤ 0; omega)⟩ rfl hl.1 rfl (Nat.le_of_ble_eq_true rfl) dX6_init_2 hK hI (fun r G1 H1 L1 hp hI => ?_)
  obtain ⟨rfl, rfl⟩ := hp
  refine W.eq (g2 := F0 mI 5 ls []) rfl ?_
  refine lv_aload_n hx hb dX6_init_5 rfl (lv_at hl 0 rfl) ?_
  refine lv_iload_n hx hb dX6_init_6 rfl (lv_at hl 2 rfl) ?_
  refine g_put (index := 7) (ci := 7) hx hb hts inlX8 tyX8 tyX8_ok nmX8 hown hK hI (gu_s _ _ _) rfl 0 (by decide) m_fl_X6_7 (fun _ h9 => h9) rfl rfl rfl (Nat.le_of_ble_eq_true rfl) dX6_init_7 (fun H1 L1 hI => ?_)
  refine W.eq (g2 := F0 mI 10 ls []) rfl ?_
  exact g_vret hx hb hr hlocks hI ⟨rfl, by first | rfl | (simp only [gu_uu]; rfl)⟩ dX6_init_10 (Nat.le_of_ble_eq_true rfl) (Nat.le_of_ble_eq_true rfl)
set_option maxHeartbeats 4000000 in
set_option maxRecDepth 100000 in
theorem c_X0_init_0 (l : Launch) (E : gE) (b0 : Nat) (G : gG) (a : Nat) (v : Int32) (hG : G a = some (.inr (0, [.int 0, .int 0]))) : gM l yX0_init cX0_init 2 none 2 0 0 E b0 G [.ref a, .int v] (pV (fun G1 => G1 = gu G a (.inr (0, [.int 5, .int v])))) := by
  refine gM.of (by decide +kernel) (Nat.le_of_ble_eq_true rfl) ?_
  intro pP eP sP mI bP meth cP ls hx hb hr hml hown hlocks hnm hts hK hI hl
  have hl : lv_has ls 2 [(0, .ref a), (1, .int v)] := hl
  have hown : sP.vm.findClass RX0 = some mI.cls := hown
  refine lv_aload_n hx hb dX0_init_0 rfl (lv_at hl 0 rfl) ?_
  refine lv_iconst (v := 5) hx hb dX0_init_1 (by decide) ?_
  refine g_callI (own := RX0) (index := 3) (n := 1) hx hb hml hown hts (c_X9_init_0 l E b0 _ a 5 hG) m_ml_X0_3 m_im_X9_init m_in_X9 m_co_X9_init rfl (by decide +kernel) ⟨Nat.le_of_ble_eq_true rfl, Nat.le_of_ble_eq_true rfl⟩ ⟨by first | exact Nat.le_of_ble_eq_true rfl | (show _ ≤ 0; omega), by first | exact Nat.le_of_ble_eq_true rfl | (show _ ≤ 0; omega)⟩ rfl hl.1 rfl (Nat.le_of_ble_eq_true rfl) dX0_init_2 hK hI (fun r G1 H1 L1 hp hI => ?_)
  obtain ⟨rfl, rfl⟩ := hp
  refine W.eq (g2 := F0 mI 5 ls []) rfl ?_
  refine lv_aload_n hx hb dX0_init_5 rfl (lv_at hl 0 rfl) ?_
  refine lv_iload_n hx hb dX0_init_6 rfl (lv_at hl 1 rfl) ?_
  refine g_putF (index := 9) (ci := 0) hx hb hts inlX0 tyX0 tyX0_ok nmX0 hown hK hI (gu_s _ _ _) rfl 1 (by decide) m_fl_X0_9 (fun _ h9 => h9) rfl hnm rfl rfl rfl (Nat.le_of_ble_eq_true rfl) dX0_init_7 (fun H1 L1 hI => ?_)
  refine W.eq (g2 := F0 mI 10 ls []) rfl ?_
  exact g_vret hx hb hr hlocks hI ⟨rfl, by first | rfl | (simp only [gu_uu]; rfl)⟩ dX0_init_10 (Nat.le_of_ble_eq_true rfl) (Nat.le_of_ble_eq_true rfl)
set_option maxHeartbeats 4000000 in
set_option maxRecDepth 100000 in
theorem c_X7_init_6 (l : Launch) (E : gE) (b0 : Nat) (G : gG) (a : Nat) (v : Int32) (hG : G a = some (.inr (6, [.int 0, .int 0, .int 0]))) : gM l yX7_init cX7_init 2 none 2 0 0 E b0 G [.ref a, .int v] (pV (fun G1 => G1 = gu G a (.inr (6, [.int 2, .int v, .int 0])))) := by
  refine gM.of (by decide +kernel) (Nat.le_of_ble_eq_true rfl) ?_
  intro pP eP sP mI bP meth cP ls hx hb hr hml hown hlocks hnm hts hK hI hl
  have hl : lv_has ls 2 [(0, .ref a), (1, .int v)] := hl
  have hown : sP.vm.findClass RX7 = some mI.cls := hown
  refine lv_aload_n hx hb dX7_init_0 rfl (lv_at hl 0 rfl) ?_
  refine lv_iconst (v := 2) hx hb dX7_init_1 (by decide) ?_
  refine g_callI (own := RX7) (index := 3) (n := 1) hx hb hml hown hts (c_X9_init_6 l E b0 _ a 2 hG) m_ml_X7_3 m_im_X9_init m_in_X9 m_co_X9_init rfl (by decide +kernel) ⟨Nat.le_of_ble_eq_true rfl, Nat.le_of_ble_eq_true rfl⟩ ⟨by first | exact Nat.le_of_ble_eq_true rfl | (show _ ≤ 0; omega), by first | exact Nat.le_of_ble_eq_true rfl | (show _ ≤ 0; omega)⟩ rfl hl.1 rfl (Nat.le_of_ble_eq_true rfl) dX7_init_2 hK hI (fun r G1 H1 L1 hp hI => ?_)
  obtain ⟨rfl, rfl⟩ := hp
  refine W.eq (g2 := F0 mI 5 ls []) rfl ?_
  refine lv_aload_n hx hb dX7_init_5 rfl (lv_at hl 0 rfl) ?_
  refine lv_iload_n hx hb dX7_init_6 rfl (lv_at hl 1 rfl) ?_
  refine g_putF (index := 9) (ci := 6) hx hb hts inlX7 tyX7 tyX7_ok nmX7 hown hK hI (gu_s _ _ _) rfl 1 (by decide) m_fl_X7_9 (fun _ h9 => h9) rfl hnm rfl rfl rfl (Nat.le_of_ble_eq_true rfl) dX7_init_7 (fun H1 L1 hI => ?_)
  refine W.eq (g2 := F0 mI 10 ls []) rfl ?_
  refine lv_aload_n hx hb dX7_init_10 rfl (lv_at hl 0 rfl) ?_
  refine lv_iconst (v := 0) hx hb dX7_init_11 (by decide) ?_
  refine g_put (index := 15) (ci := 6) hx hb hts inlX7 tyX7 tyX7_ok nmX7 hown hK hI (gu_s _ _ _) rfl 2 (by decide) m_fl_X7_15 (fun _ h9 => h9) rfl rfl rfl (Nat.le_of_ble_eq_true rfl) dX7_init_12 (fun H1 L1 hI => ?_)
  refine W.eq (g2 := F0 mI 15 ls []) rfl ?_
  exact g_vret hx hb hr hlocks hI ⟨rfl, by first | rfl | (simp only [gu_uu]; rfl)⟩ dX7_init_15 (Nat.le_of_ble_eq_true rfl) (Nat.le_of_ble_eq_true rfl)
set_option maxHeartbeats 4000000 in
set_option maxRecDepth 100000 in
theorem c_X1_init_1 (l : Launch) (E : gE) (b0 : Nat) (G : gG) (a : Nat) (v : Int32) (hG : G a = some (.inr (1, [.int 0, .int 0, .int 0]))) : gM l yX1_init cX1_init 2 none 3 0 0 E b0 G [.ref a, .int v] (pV (fun G1 => G1 = gu G a (.inr (1, [.int v, .int 1, .int 0])))) := by
  refine gM.of (by decide +kernel) (Nat.le_of_ble_eq_true rfl) ?_
  intro pP eP sP mI bP meth cP ls hx hb hr hml hown hlocks hnm hts hK hI hl
  have hl : lv_has ls 2 [(0, .ref a), (1, .int v)] := hl
  have hown : sP.vm.findClass RX1 = some mI.cls := hown
  refine lv_aload_n hx hb dX1_init_0 rfl (lv_at hl 0 rfl) ?_
  refine lv_iconst (v := 1) hx hb dX1_init_1 (by decide) ?_
  refine lv_iload_n hx hb dX1_init_2 rfl (lv_at hl 1 rfl) ?_
  refine g_callI (own := RX1) (index := 3) (n := 2) hx hb hml hown hts (c_X4_init_1 l E b0 _ a 1 v hG) m_ml_X1_3 m_im_X4_init m_in_X4 m_co_X4_init rfl (by decide +kernel) ⟨Nat.le_of_ble_eq_true rfl, Nat.le_of_ble_eq_true rfl⟩ ⟨by first | exact Nat.le_of_ble_eq_true rfl | (show _ ≤ 0; omega), by first | exact Nat.le_of_ble_eq_true rfl | (show _ ≤ 0; omega)⟩ rfl hl.1 rfl (Nat.le_of_ble_eq_true rfl) dX1_init_3 hK hI (fun r G1 H1 L1 hp hI => ?_)
  obtain ⟨rfl, rfl⟩ := hp
  refine W.eq (g2 := F0 mI 6 ls []) rfl ?_
  refine lv_aload_n hx hb dX1_init_6 rfl (lv_at hl 0 rfl) ?_
  refine lv_iconst (v := 0) hx hb dX1_init_7 (by decide) ?_
  refine g_put (index := 9) (ci := 1) hx hb hts inlX1 tyX1 tyX1_ok nmX1 hown hK hI (gu_s _ _ _) rfl 2 (by decide) m_fl_X1_9 (fun _ h9 => h9) rfl rfl rfl (Nat.le_of_ble_eq_true rfl) dX1_init_8 (fun H1 L1 hI => ?_)
  refine W.eq (g2 := F0 mI 11 ls []) rfl ?_
  exact g_vret hx hb hr hlocks hI ⟨rfl, by first | rfl | (simp only [gu_uu]; rfl)⟩ dX1_init_11 (Nat.le_of_ble_eq_true rfl) (Nat.le_of_ble_eq_true rfl)
set_option maxHeartbeats 4000000 in
set_option maxRecDepth 100000 in
theorem c_X8_init_7 (l : Launch) (E : gE) (b0 : Nat) (G : gG) (a : Nat) (v : Int32) (hG : G a = some (.inr (7, [.int 0, .int 0]))) : gM l yX8_init cX8_init 2 none 3 0 0 E b0 G [.ref a, .int v] (pV (fun G1 => G1 = gu G a (.inr (7, [.int v, .int 3])))) := by
  refine gM.of (by decide +kernel) (Nat.le_of_ble_eq_true rfl) ?_
  intro pP eP sP mI bP meth cP ls hx hb hr hml hown hlocks hnm hts hK hI hl
  have hl : lv_has ls 2 [(0, .ref a), (1, .int v)] := hl
  have hown : sP.vm.findClass RX8 = some mI.cls := hown
  refine lv_aload_n hx hb dX8_init_0 rfl (lv_at hl 0 rfl) ?_
  refine lv_iconst (v := 3) hx hb dX8_init_1 (by decide) ?_
  refine lv_iload_n hx hb dX8_init_2 rfl (lv_at hl 1 rfl) ?_
  refine g_callI (own := RX8) (index := 3) (n := 2) hx hb hml hown hts (c_X6_init_7 l E b0 _ a 3 v hG) m_ml_X8_3 m_im_X6_init m_in_X6 m_co_X6_init rfl (by decide +kernel) ⟨Nat.le_of_ble_eq_true rfl, Nat.le_of_ble_eq_true rfl⟩ ⟨by first | exact Nat.le_of_ble_eq_true rfl | (show _ ≤ 0; omega), by first | exact Nat.le_of_ble_eq_true rfl | (show _ ≤ 0; omega)⟩ rfl hl.1 rfl (Nat.le_of_ble_eq_true rfl) dX8_init_3 hK hI (fun r G1 H1 L1 hp hI => ?_)
  obtain ⟨rfl, rfl⟩ := hp
  refine W.eq (g2 := F0 mI 6 ls []) rfl ?_
  exact g_vret hx hb hr hlocks hI ⟨rfl, by first | rfl | (simp only [gu_uu]; rfl)⟩ dX8_init_6 (Nat.le_of_ble_eq_true rfl) (Nat.le_of_ble_eq_true rfl)
set_option maxHeartbeats 4000000 in
set_option maxRecDepth 100000 in
theorem c_X3_init_3 (l : Launch) (E : gE) (b0 : Nat) (G : gG) (a : Nat) (v : Int32) (hG : G a = some (.inr (3, [.int 0, .int 0]))) : gM l yX3_init cX3_init 2 none 3 0 0 E b0 G [.ref a, .int v] (pV (fun G1 => G1 = gu G a (.inr (3, [.int v, .int 4])))) := by
  refine gM.of (by decide +kernel) (Nat.le_of_ble_eq_true rfl) ?_
  intro pP eP sP mI bP meth cP ls hx hb hr hml hown hlocks hnm hts hK hI hl
  have hl : lv_has ls 2 [(0, .ref a), (1, .int v)] := hl
  have hown : sP.vm.findClass RX3 = some mI.cls := hown
  refine lv_aload_n hx hb dX3_init_0 rfl (lv_at hl 0 rfl) ?_
  refine lv_iconst (v := 4) hx hb dX3_init_1 (by decide) ?_
  refine lv_iload_n hx hb dX3_init_2 rfl (lv_at hl 1 rfl) ?_
  refine g_callI (own := RX3) (index := 3) (n := 2) hx hb hml hown hts (c_X6_init_3 l E b0 _ a 4 v hG) m_ml_X3_3 m_im_X6_init m_in_X6 m_co_X6_init rfl (by decide +kernel) ⟨Nat.le_of_ble_eq_true rfl, Nat.le_of_ble_eq_true rfl⟩ ⟨by first | exact Nat.le_of_ble_eq_true rfl | (show _ ≤ 0; omega), by first | exact Nat.le_of_ble_eq_true rfl | (show _ ≤ 0; omega)⟩ rfl hl.1 rfl (Nat.le_of_ble_eq_true rfl) dX3_init_3 hK hI (fun r G1 H1 L1 hp hI => ?_)
  obtain ⟨rfl, rfl⟩ := hp
  refine W.eq (g2 := F0 mI 6 ls []) rfl ?_
  exact g_vret hx hb hr hlocks hI ⟨rfl, by first | rfl | (simp only [gu_uu]; rfl)⟩ dX3_init_6 (Nat.le_of_ble_eq_true rfl) (Nat.le_of_ble_eq_true rfl)
