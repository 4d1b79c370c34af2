set_option maxHeartbeats 4000000 in
set_option maxRecDepth 100000 in
theorem law_case_0 {p : Program} {e : Env} {s : State} {m : MethodId} {below : List Frame} {meth : Method} {c : Code} (l : Launch) {b L : Nat} {xs : Nat → Int32} {E : gE} (hx : p.tables.exec = Jvm.exec) (hb : c.code = code) (hml : c.maxLocals = 4) (hown : s.vm.findClass RL = some m.cls) (hts : ∀ w ∈ wsL_law, w.before #[Value.ref b] s = true) (hX : va_X b L xs s s.heap) (hbl : b < s.heap.size) (hK : gK E s) {x mo j nn cells slots : Nat} {A : gA} {H : Heap} {locs : List Loc} {ls : Array Slot} {Q : State → Prop} (hJ : 5 * j + 5 ≤ L) (hL : L ≤ 2560) (hnj : nn ≤ j) (hz : j = 0 → A = zA) (hIx : LI E s x mo A nn H locs) (hl : lv_has ls 4 [(3, .int (nI (5 * j))), (0, .ref b), (1, .ref x), (2, .ref mo)]) (hce : cells + 2 ≤ 600000) (hsl : slots + 160 ≤ 7302250)
    (kk : ∀ (A1 : gA) (n1 : Nat) (H1 : Heap) (locs1 : List Loc), n1 ≤ nn + 1 → LI E s x mo A1 n1 H1 locs1 → W p l e room_1 s m #[Value.ref b] below meth c H1 locs1 (cells + 2) (slots + 160) Q (F0 m 881 ls [])) : W p l e room_1 s m #[Value.ref b] below meth c H locs cells slots Q (F0 m 128 ls []) := by
  obtain ⟨Gc, Gm, aa, ma, hS, hM, hIc, hIm, hd⟩ := hIx
  have hbA : ¬ (fun q : Nat => s.heap.size ≤ q) b := Nat.not_le.mpr hbl
  have hw : wfb A nn := ⟨hS.1, by omega⟩
  refine lv_aload_n hx hb dL_law_128 rfl (lv_at hl 2 rfl) ?_
  refine lv_aload_n hx hb dL_law_129 rfl (lv_at hl 1 rfl) ?_
  refine lv_iload_n hx hb dL_law_130 rfl (lv_at hl 0 rfl) ?_
  refine lv_iconst (v := 1) hx hb dL_law_131 (by decide) ?_
  refine lv_iadd hx hb dL_law_132 ?_
  refine W.eq (g2 := F0 m 133 ls [.int (nI (5 * j + 1)), .ref b, .ref x]) (by rw [show nI (5 * j) + 1 = nI (5 * j + 1) from nI_add _ 1]) ?_
  refine va_sld hx hb hX hbl hbA (law_S hIc) (vp_in_nI (by omega) (by omega)) dL_law_133 ?_
  refine W.eq (g2 := F0 m 134 ls [.int (xs (5 * j + 1)), .ref x]) (by rw [nI_clamp (by omega)]) ?_
  refine lv_aload_n hx hb dL_law_134 rfl (lv_at hl 1 rfl) ?_
  refine lv_iload_n hx hb dL_law_135 rfl (lv_at hl 0 rfl) ?_
  refine lv_iconst (v := 2) hx hb dL_law_136 (by decide) ?_
  refine lv_iadd hx hb dL_law_137 ?_
  refine W.eq (g2 := F0 m 138 ls [.int (nI (5 * j + 2)), .ref b, .int (xs (5 * j + 1)), .ref x]) (by rw [show nI (5 * j) + 2 = nI (5 * j + 2) from nI_add _ 2]) ?_
  refine va_sld hx hb hX hbl hbA (law_S hIc) (vp_in_nI (by omega) (by omega)) dL_law_138 ?_
  refine W.eq (g2 := F0 m 139 ls [.int (xs (5 * j + 2)), .int (xs (5 * j + 1)), .ref x]) (by rw [nI_clamp (by omega)]) ?_
  refine lv_aload_n hx hb dL_law_139 rfl (lv_at hl 1 rfl) ?_
  refine lv_iload_n hx hb dL_law_140 rfl (lv_at hl 0 rfl) ?_
  refine lv_iconst (v := 3) hx hb dL_law_141 (by decide) ?_
  refine lv_iadd hx hb dL_law_142 ?_
  refine W.eq (g2 := F0 m 143 ls [.int (nI (5 * j + 3)), .ref b, .int (xs (5 * j + 2)), .int (xs (5 * j + 1)), .ref x]) (by rw [show nI (5 * j) + 3 = nI (5 * j + 3) from nI_add _ 3]) ?_
  refine va_sld hx hb hX hbl hbA (law_S hIc) (vp_in_nI (by omega) (by omega)) dL_law_143 ?_
  refine W.eq (g2 := F0 m 144 ls [.int (xs (5 * j + 3)), .int (xs (5 * j + 2)), .int (xs (5 * j + 1)), .ref x]) (by rw [nI_clamp (by omega)]) ?_
  refine g_callV2 (own := RL) (index := 13) (n := 3) hx hb hml hown hts (c_X10_set l E _ _ _ aa _ nn hS (by omega) (by omega) (xs (5 * j + 1)) (xs (5 * j + 2)) (xs (5 * j + 3))) hS.yc' rfl rfl m_ml_L_13 m_im_X10_set m_se_X10_X10_set_X10_set m_in_X10 m_co_X10_set (by decide +kernel) ⟨Nat.le_of_ble_eq_true rfl, Nat.le_of_ble_eq_true rfl⟩ ⟨hce, hsl⟩ rfl hl.1 rfl (Nat.le_of_ble_eq_true rfl) dL_law_144 hK hIc hIm hd (fun r Gc H locs hp hIc hIm hd => ?_)
  obtain ⟨v, rfl, ev, aa1, n1, hn1, hS1⟩ := hp
  subst ev
  refine W.eq (g2 := F0 m 147 ls [.int ((sp_set A (xs (5 * j + 1)) (xs (5 * j + 2)) (xs (5 * j + 3))).1)]) rfl ?_
  refine lv_pop hx hb dL_law_147 rfl ?_
  refine lv_aload_n hx hb dL_law_148 rfl (lv_at hl 3 rfl) ?_
  refine lv_aload_n hx hb dL_law_149 rfl (lv_at hl 1 rfl) ?_
  refine lv_iload_n hx hb dL_law_150 rfl (lv_at hl 0 rfl) ?_
  refine lv_iconst (v := 1) hx hb dL_law_151 (by decide) ?_
  refine lv_iadd hx hb dL_law_152 ?_
  refine W.eq (g2 := F0 m 153 ls [.int (nI (5 * j + 1)), .ref b, .ref mo]) (by rw [show nI (5 * j) + 1 = nI (5 * j + 1) from nI_add _ 1]) ?_
  refine va_sld hx hb hX hbl hbA (law_S hIc) (vp_in_nI (by omega) (by omega)) dL_law_153 ?_
  refine W.eq (g2 := F0 m 154 ls [.int (xs (5 * j + 1)), .ref mo]) (by rw [nI_clamp (by omega)]) ?_
  refine lv_aload_n hx hb dL_law_154 rfl (lv_at hl 1 rfl) ?_
  refine lv_iload_n hx hb dL_law_155 rfl (lv_at hl 0 rfl) ?_
  refine lv_iconst (v := 2) hx hb dL_law_156 (by decide) ?_
  refine lv_iadd hx hb dL_law_157 ?_
  refine W.eq (g2 := F0 m 158 ls [.int (nI (5 * j + 2)), .ref b, .int (xs (5 * j + 1)), .ref mo]) (by rw [show nI (5 * j) + 2 = nI (5 * j + 2) from nI_add _ 2]) ?_
  refine va_sld hx hb hX hbl hbA (law_S hIc) (vp_in_nI (by omega) (by omega)) dL_law_158 ?_
  refine W.eq (g2 := F0 m 159 ls [.int (xs (5 * j + 2)), .int (xs (5 * j + 1)), .ref mo]) (by rw [nI_clamp (by omega)]) ?_
  refine lv_aload_n hx hb dL_law_159 rfl (lv_at hl 1 rfl) ?_
  refine lv_iload_n hx hb dL_law_160 rfl (lv_at hl 0 rfl) ?_
  refine lv_iconst (v := 3) hx hb dL_law_161 (by decide) ?_
  refine lv_iadd hx hb dL_law_162 ?_
  refine W.eq (g2 := F0 m 163 ls [.int (nI (5 * j + 3)), .ref b, .int (xs (5 * j + 2)), .int (xs (5 * j + 1)), .ref mo]) (by rw [show nI (5 * j) + 3 = nI (5 * j + 3) from nI_add _ 3]) ?_
  refine va_sld hx hb hX hbl hbA (law_S hIc) (vp_in_nI (by omega) (by omega)) dL_law_163 ?_
  refine W.eq (g2 := F0 m 164 ls [.int (xs (5 * j + 3)), .int (xs (5 * j + 2)), .int (xs (5 * j + 1)), .ref mo]) (by rw [nI_clamp (by omega)]) ?_
  refine g_callV2 (own := RL) (index := 17) (n := 3) hx hb hml hown hts (c_X11_set l E _ _ _ ma _ hM nn hw (xs (5 * j + 1)) (xs (5 * j + 2)) (xs (5 * j + 3))) hM.1 rfl rfl m_ml_L_17 m_im_X11_set m_se_X11_X11_set_X11_set m_in_X11 m_co_X11_set (by decide +kernel) ⟨Nat.le_of_ble_eq_true rfl, Nat.le_of_ble_eq_true rfl⟩ ⟨show cells + 2 + 0 ≤ 600000 by omega, show slots + 160 + 0 ≤ 7302250 by omega⟩ rfl hl.1 rfl (Nat.le_of_ble_eq_true rfl) dL_law_164 hK hIm hIc (fun q => (hd q).symm) (fun r Gm H locs hp hIm hIc hd => ?_)
  obtain ⟨v, rfl, ev, hM⟩ := hp
  subst ev
  refine W.eq (g2 := F0 m 167 ls [.int ((sp_set A (xs (5 * j + 1)) (xs (5 * j + 2)) (xs (5 * j + 3))).1)]) rfl ?_
  refine lv_pop hx hb dL_law_167 rfl ?_
  refine lv_goto (tgt := 881) hx hb dL_law_168 (by decide) ?_
  exact kk _ n1 _ _ hn1 ⟨Gc, Gm, aa1, ma, hS1, hM, hIc, hIm, fun q => (hd q).symm⟩
set_option maxHeartbeats 4000000 in
set_option maxRecDepth 100000 in
theorem law_case_1 {p : Program} {e : Env} {s : State} {m : MethodId} {below : List Frame} {meth : Method} {c : Code} (l : Launch) {b L : Nat} {xs : Nat → Int32} {E : gE} (hx : p.tables.exec = Jvm.exec) (hb : c.code = code) (hml : c.maxLocals = 4) (hown : s.vm.findClass RL = some m.cls) (hts : ∀ w ∈ wsL_law, w.before #[Value.ref b] s = true) (hX : va_X b L xs s s.heap) (hbl : b < s.heap.size) (hK : gK E s) {x mo j nn cells slots : Nat} {A : gA} {H : Heap} {locs : List Loc} {ls : Array Slot} {Q : State → Prop} (hJ : 5 * j + 5 ≤ L) (hL : L ≤ 2560) (hnj : nn ≤ j) (hz : j = 0 → A = zA) (hIx : LI E s x mo A nn H locs) (hl : lv_has ls 4 [(3, .int (nI (5 * j))), (0, .ref b), (1, .ref x), (2, .ref mo)]) (hce : cells + 2 ≤ 600000) (hsl : slots + 160 ≤ 7302250)
    (kk : ∀ (A1 : gA) (n1 : Nat) (H1 : Heap) (locs1 : List Loc), n1 ≤ nn + 1 → LI E s x mo A1 n1 H1 locs1 → W p l e room_1 s m #[Value.ref b] below meth c H1 locs1 (cells + 2) (slots + 160) Q (F0 m 881 ls [])) : W p l e room_1 s m #[Value.ref b] below meth c H locs cells slots Q (F0 m 171 ls []) := by
  obtain ⟨Gc, Gm, aa, ma, hS, hM, hIc, hIm, hd⟩ := hIx
  have hbA : ¬ (fun q : Nat => s.heap.size ≤ q) b := Nat.not_le.mpr hbl
  have hw : wfb A nn := ⟨hS.1, by omega⟩
  refine lv_aload_n hx hb dL_law_171 rfl (lv_at hl 2 rfl) ?_
  refine lv_aload_n hx hb dL_law_172 rfl (lv_at hl 1 rfl) ?_
  refine lv_iload_n hx hb dL_law_173 rfl (lv_at hl 0 rfl) ?_
  refine lv_iconst (v := 1) hx hb dL_law_174 (by decide) ?_
  refine lv_iadd hx hb dL_law_175 ?_
  refine W.eq (g2 := F0 m 176 ls [.int (nI (5 * j + 1)), .ref b, .ref x]) (by rw [show nI (5 * j) + 1 = nI (5 * j + 1) from nI_add _ 1]) ?_
  refine va_sld hx hb hX hbl hbA (law_S hIc) (vp_in_nI (by omega) (by omega)) dL_law_176 ?_
  refine W.eq (g2 := F0 m 177 ls [.int (xs (5 * j + 1)), .ref x]) (by rw [nI_clamp (by omega)]) ?_
  refine lv_aload_n hx hb dL_law_177 rfl (lv_at hl 1 rfl) ?_
  refine lv_iload_n hx hb dL_law_178 rfl (lv_at hl 0 rfl) ?_
  refine lv_iconst (v := 2) hx hb dL_law_179 (by decide) ?_
  refine lv_iadd hx hb dL_law_180 ?_
  refine W.eq (g2 := F0 m 181 ls [.int (nI (5 * j + 2)), .ref b, .int (xs (5 * j + 1)), .ref x]) (by rw [show nI (5 * j) + 2 = nI (5 * j + 2) from nI_add _ 2]) ?_
  refine va_sld hx hb hX hbl hbA (law_S hIc) (vp_in_nI (by omega) (by omega)) dL_law_181 ?_
  refine W.eq (g2 := F0 m 182 ls [.int (xs (5 * j + 2)), .int (xs (5 * j + 1)), .ref x]) (by rw [nI_clamp (by omega)]) ?_
  refine lv_if_eq (tgt := 189) hx hb dL_law_182 (by decide) (fun c_1 => ?_) (fun c_1 => ?_)
  · have q_2 := eqb_t c_1
    refine lv_iconst (v := 0) hx hb dL_law_189 (by decide) ?_
    refine lv_aload_n hx hb dL_law_190 rfl (lv_at hl 1 rfl) ?_
    refine lv_iload_n hx hb dL_law_191 rfl (lv_at hl 0 rfl) ?_
    refine lv_iconst (v := 3) hx hb dL_law_192 (by decide) ?_
    refine lv_iadd hx hb dL_law_193 ?_
    refine W.eq (g2 := F0 m 194 ls [.int (nI (5 * j + 3)), .ref b, .int 0, .int (xs (5 * j + 1)), .ref x]) (by rw [show nI (5 * j) + 3 = nI (5 * j + 3) from nI_add _ 3]) ?_
    refine va_sld hx hb hX hbl hbA (law_S hIc) (vp_in_nI (by omega) (by omega)) dL_law_194 ?_
    refine W.eq (g2 := F0 m 195 ls [.int (xs (5 * j + 3)), .int 0, .int (xs (5 * j + 1)), .ref x]) (by rw [nI_clamp (by omega)]) ?_
    refine g_callV2 (own := RL) (index := 18) (n := 3) hx hb hml hown hts (c_X10_hive l E _ _ _ aa _ nn hS (by omega) (by omega) (xs (5 * j + 1)) 0 (xs (5 * j + 3))) hS.yc' rfl rfl m_ml_L_18 m_im_X10_hive m_se_X10_X10_hive_X10_hive m_in_X10 m_co_X10_hive (by decide +kernel) ⟨Nat.le_of_ble_eq_true rfl, Nat.le_of_ble_eq_true rfl⟩ ⟨hce, hsl⟩ rfl hl.1 rfl (Nat.le_of_ble_eq_true rfl) dL_law_195 hK hIc hIm hd (fun r Gc H locs hp hIc hIm hd => ?_)
    obtain ⟨v, rfl, ev, aa1, n1, hn1, hS1⟩ := hp
    subst ev
    refine W.eq (g2 := F0 m 198 ls [.int ((sp_hive A (xs (5 * j + 1)) 0 (xs (5 * j + 3))).1)]) rfl ?_
    refine lv_pop hx hb dL_law_198 rfl ?_
    refine lv_aload_n hx hb dL_law_199 rfl (lv_at hl 3 rfl) ?_
    refine lv_aload_n hx hb dL_law_200 rfl (lv_at hl 1 rfl) ?_
    refine lv_iload_n hx hb dL_law_201 rfl (lv_at hl 0 rfl) ?_
    refine lv_iconst (v := 1) hx hb dL_law_202 (by decide) ?_
    refine lv_iadd hx hb dL_law_203 ?_
    refine W.eq (g2 := F0 m 204 ls [.int (nI (5 * j + 1)), .ref b, .ref mo]) (by rw [show nI (5 * j) + 1 = nI (5 * j + 1) from nI_add _ 1]) ?_
    refine va_sld hx hb hX hbl hbA (law_S hIc) (vp_in_nI (by omega) (by omega)) dL_law_204 ?_
    refine W.eq (g2 := F0 m 205 ls [.int (xs (5 * j + 1)), .ref mo]) (by rw [nI_clamp (by omega)]) ?_
    refine lv_aload_n hx hb dL_law_205 rfl (lv_at hl 1 rfl) ?_
    refine lv_iload_n hx hb dL_law_206 rfl (lv_at hl 0 rfl) ?_
    refine lv_iconst (v := 2) hx hb dL_law_207 (by decide) ?_
    refine lv_iadd hx hb dL_law_208 ?_
    refine W.eq (g2 := F0 m 209 ls [.int (nI (5 * j + 2)), .ref b, .int (xs (5 * j + 1)), .ref mo]) (by rw [show nI (5 * j) + 2 = nI (5 * j + 2) from nI_add _ 2]) ?_
    refine va_sld hx hb hX hbl hbA (law_S hIc) (vp_in_nI (by omega) (by omega)) dL_law_209 ?_
    refine W.eq (g2 := F0 m 210 ls [.int (xs (5 * j + 2)), .int (xs (5 * j + 1)), .ref mo]) (by rw [nI_clamp (by omega)]) ?_
    refine lv_if_eq (tgt := 217) hx hb dL_law_210 (by decide) (fun _ => ?_) (fun c_3 => by first | exact absurd c_1 c_3 | exact absurd c_3 c_1 | (simp_all; done))
    refine lv_iconst (v := 0) hx hb dL_law_217 (by decide) ?_
    refine lv_aload_n hx hb dL_law_218 rfl (lv_at hl 1 rfl) ?_
    refine lv_iload_n hx hb dL_law_219 rfl (lv_at hl 0 rfl) ?_
    refine lv_iconst (v := 3) hx hb dL_law_220 (by decide) ?_
    refine lv_iadd hx hb dL_law_221 ?_
    refine W.eq (g2 := F0 m 222 ls [.int (nI (5 * j + 3)), .ref b, .int 0, .int (xs (5 * j + 1)), .ref mo]) (by rw [show nI (5 * j) + 3 = nI (5 * j + 3) from nI_add _ 3]) ?_
    refine va_sld hx hb hX hbl hbA (law_S hIc) (vp_in_nI (by omega) (by omega)) dL_law_222 ?_
    refine W.eq (g2 := F0 m 223 ls [.int (xs (5 * j + 3)), .int 0, .int (xs (5 * j + 1)), .ref mo]) (by rw [nI_clamp (by omega)]) ?_
    refine g_callV2 (own := RL) (index := 22) (n := 3) hx hb hml hown hts (c_X11_hive l E _ _ _ ma _ hM nn hw (xs (5 * j + 1)) 0 (xs (5 * j + 3))) hM.1 rfl rfl m_ml_L_22 m_im_X11_hive m_se_X11_X11_hive_X11_hive m_in_X11 m_co_X11_hive (by decide +kernel) ⟨Nat.le_of_ble_eq_true rfl, Nat.le_of_ble_eq_true rfl⟩ ⟨show cells + 2 + 0 ≤ 600000 by omega, show slots + 160 + 0 ≤ 7302250 by omega⟩ rfl hl.1 rfl (Nat.le_of_ble_eq_true rfl) dL_law_223 hK hIm hIc (fun q => (hd q).symm) (fun r Gm H locs hp hIm hIc hd => ?_)
    obtain ⟨v, rfl, ev, hM⟩ := hp
    subst ev
    refine W.eq (g2 := F0 m 226 ls [.int ((sp_hive A (xs (5 * j + 1)) 0 (xs (5 * j + 3))).1)]) rfl ?_
    refine lv_pop hx hb dL_law_226 rfl ?_
    refine lv_goto (tgt := 881) hx hb dL_law_227 (by decide) ?_
    exact kk _ n1 _ _ hn1 ⟨Gc, Gm, aa1, ma, hS1, hM, hIc, hIm, fun q => (hd q).symm⟩
  · have q_4 := eqb_f c_1
    refine lv_iconst (v := 1) hx hb dL_law_185 (by decide) ?_
    refine lv_goto (tgt := 190) hx hb dL_law_186 (by decide) ?_
    refine lv_aload_n hx hb dL_law_190 rfl (lv_at hl 1 rfl) ?_
    refine lv_iload_n hx hb dL_law_191 rfl (lv_at hl 0 rfl) ?_
    refine lv_iconst (v := 3) hx hb dL_law_192 (by decide) ?_
    refine lv_iadd hx hb dL_law_193 ?_
    refine W.eq (g2 := F0 m 194 ls [.int (nI (5 * j + 3)), .ref b, .int 1, .int (xs (5 * j + 1)), .ref x]) (by rw [show nI (5 * j) + 3 = nI (5 * j + 3) from nI_add _ 3]) ?_
    refine va_sld hx hb hX hbl hbA (law_S hIc) (vp_in_nI (by omega) (by omega)) dL_law_194 ?_
    refine W.eq (g2 := F0 m 195 ls [.int (xs (5 * j + 3)), .int 1, .int (xs (5 * j + 1)), .ref x]) (by rw [nI_clamp (by omega)]) ?_
    refine g_callV2 (own := RL) (index := 18) (n := 3) hx hb hml hown hts (c_X10_hive l E _ _ _ aa _ nn hS (by omega) (by omega) (xs (5 * j + 1)) 1 (xs (5 * j + 3))) hS.yc' rfl rfl m_ml_L_18 m_im_X10_hive m_se_X10_X10_hive_X10_hive m_in_X10 m_co_X10_hive (by decide +kernel) ⟨Nat.le_of_ble_eq_true rfl, Nat.le_of_ble_eq_true rfl⟩ ⟨hce, hsl⟩ rfl hl.1 rfl (Nat.le_of_ble_eq_true rfl) dL_law_195 hK hIc hIm hd (fun r Gc H locs hp hIc hIm hd => ?_)
    obtain ⟨v, rfl, ev, aa1, n1, hn1, hS1⟩ := hp
    subst ev
    refine W.eq (g2 := F0 m 198 ls [.int ((sp_hive A (xs (5 * j + 1)) 1 (xs (5 * j + 3))).1)]) rfl ?_
    refine lv_pop hx hb dL_law_198 rfl ?_
    refine lv_aload_n hx hb dL_law_199 rfl (lv_at hl 3 rfl) ?_
    refine lv_aload_n hx hb dL_law_200 rfl (lv_at hl 1 rfl) ?_
    refine lv_iload_n hx hb dL_law_201 rfl (lv_at hl 0 rfl) ?_
    refine lv_iconst (v := 1) hx hb dL_law_202 (by decide) ?_
    refine lv_iadd hx hb dL_law_203 ?_
    refine W.eq (g2 := F0 m 204 ls [.int (nI (5 * j + 1)), .ref b, .ref mo]) (by rw [show nI (5 * j) + 1 = nI (5 * j + 1) from nI_add _ 1]) ?_
    refine va_sld hx hb hX hbl hbA (law_S hIc) (vp_in_nI (by omega) (by omega)) dL_law_204 ?_
    refine W.eq (g2 := F0 m 205 ls [.int (xs (5 * j + 1)), .ref mo]) (by rw [nI_clamp (by omega)]) ?_
    refine lv_aload_n hx hb dL_law_205 rfl (lv_at hl 1 rfl) ?_
    refine lv_iload_n hx hb dL_law_206 rfl (lv_at hl 0 rfl) ?_
    refine lv_iconst (v := 2) hx hb dL_law_207 (by decide) ?_
    refine lv_iadd hx hb dL_law_208 ?_
    refine W.eq (g2 := F0 m 209 ls [.int (nI (5 * j + 2)), .ref b, .int (xs (5 * j + 1)), .ref mo]) (by rw [show nI (5 * j) + 2 = nI (5 * j + 2) from nI_add _ 2]) ?_
    refine va_sld hx hb hX hbl hbA (law_S hIc) (vp_in_nI (by omega) (by omega)) dL_law_209 ?_
    refine W.eq (g2 := F0 m 210 ls [.int (xs (5 * j + 2)), .int (xs (5 * j + 1)), .ref mo]) (by rw [nI_clamp (by omega)]) ?_
    refine lv_if_eq (tgt := 217) hx hb dL_law_210 (by decide) (fun c_5 => by first | exact absurd c_1 c_5 | exact absurd c_5 c_1 | (simp_all; done)) (fun _ => ?_)
    refine lv_iconst (v := 1) hx hb dL_law_213 (by decide) ?_
    refine lv_goto (tgt := 218) hx hb dL_law_214 (by decide) ?_
    refine lv_aload_n hx hb dL_law_218 rfl (lv_at hl 1 rfl) ?_
    refine lv_iload_n hx hb dL_law_219 rfl (lv_at hl 0 rfl) ?_
    refine lv_iconst (v := 3) hx hb dL_law_220 (by decide) ?_
    refine lv_iadd hx hb dL_law_221 ?_
    refine W.eq (g2 := F0 m 222 ls [.int (nI (5 * j + 3)), .ref b, .int 1, .int (xs (5 * j + 1)), .ref mo]) (by rw [show nI (5 * j) + 3 = nI (5 * j + 3) from nI_add _ 3]) ?_
    refine va_sld hx hb hX hbl hbA (law_S hIc) (vp_in_nI (by omega) (by omega)) dL_law_222 ?_
    refine W.eq (g2 := F0 m 223 ls [.int (xs (5 * j + 3)), .int 1, .int (xs (5 * j + 1)), .ref mo]) (by rw [nI_clamp (by omega)]) ?_
    refine g_callV2 (own := RL) (index := 22) (n := 3) hx hb hml hown hts (c_X11_hive l E _ _ _ ma _ hM nn hw (xs (5 * j + 1)) 1 (xs (5 * j + 3))) hM.1 rfl rfl m_ml_L_22 m_im_X11_hive m_se_X11_X11_hive_X11_hive m_in_X11 m_co_X11_hive (by decide +kernel) ⟨Nat.le_of_ble_eq_true rfl, Nat.le_of_ble_eq_true rfl⟩ ⟨show cells + 2 + 0 ≤ 600000 by omega, show slots + 160 + 0 ≤ 7302250 by omega⟩ rfl hl.1 rfl (Nat.le_of_ble_eq_true rfl) dL_law_223 hK hIm hIc (fun q => (hd q).symm) (fun r Gm H locs hp hIm hIc hd => ?_)
    obtain ⟨v, rfl, ev, hM⟩ := hp
    subst ev
    refine W.eq (g2 := F0 m 226 ls [.int ((sp_hive A (xs (5 * j + 1)) 1 (xs (5 * j + 3))).1)]) rfl ?_
    refine lv_pop hx hb dL_law_226 rfl ?_
    refine lv_goto (tgt := 881) hx hb dL_law_227 (by decide) ?_
    exact kk _ n1 _ _ hn1 ⟨Gc, Gm, aa1, ma, hS1, hM, hIc, hIm, fun q => (hd q).symm⟩
set_option maxHeartbeats 4000000 in
set_option maxRecDepth 100000 in
theorem law_case_2 {p : Program} {e : Env} {s : State} {m : MethodId} {below : List Frame} {meth : Method} {c : Code} (l : Launch) {b L : Nat} {xs : Nat → Int32} {E : gE} (hx : p.tables.exec = Jvm.exec) (hb : c.code = code) (hml : c.maxLocals = 4) (hown : s.vm.findClass RL = some m.cls) (hts : ∀ w ∈ wsL_law, w.before #[Value.ref b] s = true) (hX : va_X b L xs s s.heap) (hbl : b < s.heap.size) (hK : gK E s) {x mo j nn cells slots : Nat} {A : gA} {H : Heap} {locs : List Loc} {ls : Array Slot} {Q : State → Prop} (hJ : 5 * j + 5 ≤ L) (hL : L ≤ 2560) (hnj : nn ≤ j) (hz : j = 0 → A = zA) (hIx : LI E s x mo A nn H locs) (hl : lv_has ls 4 [(3, .int (nI (5 * j))), (0, .ref b), (1, .ref x), (2, .ref mo)]) (hce : cells + 2 ≤ 600000) (hsl : slots + 160 ≤ 7302250)
    (kk : ∀ (A1 : gA) (n1 : Nat) (H1 : Heap) (locs1 : List Loc), n1 ≤ nn + 1 → LI E s x mo A1 n1 H1 locs1 → W p l e room_1 s m #[Value.ref b] below meth c H1 locs1 (cells + 2) (slots + 160) Q (F0 m 881 ls [])) : W p l e room_1 s m #[Value.ref b] below meth c H locs cells slots Q (F0 m 230 ls []) := by
  obtain ⟨Gc, Gm, aa, ma, hS, hM, hIc, hIm, hd⟩ := hIx
  have hbA : ¬ (fun q : Nat => s.heap.size ≤ q) b := Nat.not_le.mpr hbl
  have hw : wfb A nn := ⟨hS.1, by omega⟩
  refine lv_aload_n hx hb dL_law_230 rfl (lv_at hl 2 rfl) ?_
  refine lv_aload_n hx hb dL_law_231 rfl (lv_at hl 1 rfl) ?_
  refine lv_iload_n hx hb dL_law_232 rfl (lv_at hl 0 rfl) ?_
  refine lv_iconst (v := 1) hx hb dL_law_233 (by decide) ?_
  refine lv_iadd hx hb dL_law_234 ?_
  refine W.eq (g2 := F0 m 235 ls [.int (nI (5 * j + 1)), .ref b, .ref x]) (by rw [show nI (5 * j) + 1 = nI (5 * j + 1) from nI_add _ 1]) ?_
  refine va_sld hx hb hX hbl hbA (law_S hIc) (vp_in_nI (by omega) (by omega)) dL_law_235 ?_
  refine W.eq (g2 := F0 m 236 ls [.int (xs (5 * j + 1)), .ref x]) (by rw [nI_clamp (by omega)]) ?_
  refine lv_aload_n hx hb dL_law_236 rfl (lv_at hl 1 rfl) ?_
  refine lv_iload_n hx hb dL_law_237 rfl (lv_at hl 0 rfl) ?_
  refine lv_iconst (v := 2) hx hb dL_law_238 (by decide) ?_
  refine lv_iadd hx hb dL_law_239 ?_
  refine W.eq (g2 := F0 m 240 ls [.int (nI (5 * j + 2)), .ref b, .int (xs (5 * j + 1)), .ref x]) (by rw [show nI (5 * j) + 2 = nI (5 * j + 2) from nI_add _ 2]) ?_
  refine va_sld hx hb hX hbl hbA (law_S hIc) (vp_in_nI (by omega) (by omega)) dL_law_240 ?_
  refine W.eq (g2 := F0 m 241 ls [.int (xs (5 * j + 2)), .int (xs (5 * j + 1)), .ref x]) (by rw [nI_clamp (by omega)]) ?_
  refine g_callV2 (own := RL) (index := 23) (n := 2) hx hb hml hown hts (c_X10_share l E _ _ _ aa _ nn hS (by omega) (xs (5 * j + 1)) (xs (5 * j + 2))) hS.yc' rfl rfl m_ml_L_23 m_im_X10_share m_se_X10_X10_share_X10_share m_in_X10 m_co_X10_share (by decide +kernel) ⟨Nat.le_of_ble_eq_true rfl, Nat.le_of_ble_eq_true rfl⟩ ⟨hce, hsl⟩ rfl hl.1 rfl (Nat.le_of_ble_eq_true rfl) dL_law_241 hK hIc hIm hd (fun r Gc H locs hp hIc hIm hd => ?_)
  obtain ⟨v, rfl, ev, aa1, n1, hn1, hS1⟩ := hp
  subst ev
  refine W.eq (g2 := F0 m 244 ls [.int ((sp_share A (xs (5 * j + 1)) (xs (5 * j + 2))).1)]) rfl ?_
  refine lv_pop hx hb dL_law_244 rfl ?_
  refine lv_aload_n hx hb dL_law_245 rfl (lv_at hl 3 rfl) ?_
  refine lv_aload_n hx hb dL_law_246 rfl (lv_at hl 1 rfl) ?_
  refine lv_iload_n hx hb dL_law_247 rfl (lv_at hl 0 rfl) ?_
  refine lv_iconst (v := 1) hx hb dL_law_248 (by decide) ?_
  refine lv_iadd hx hb dL_law_249 ?_
  refine W.eq (g2 := F0 m 250 ls [.int (nI (5 * j + 1)), .ref b, .ref mo]) (by rw [show nI (5 * j) + 1 = nI (5 * j + 1) from nI_add _ 1]) ?_
  refine va_sld hx hb hX hbl hbA (law_S hIc) (vp_in_nI (by omega) (by omega)) dL_law_250 ?_
  refine W.eq (g2 := F0 m 251 ls [.int (xs (5 * j + 1)), .ref mo]) (by rw [nI_clamp (by omega)]) ?_
  refine lv_aload_n hx hb dL_law_251 rfl (lv_at hl 1 rfl) ?_
  refine lv_iload_n hx hb dL_law_252 rfl (lv_at hl 0 rfl) ?_
  refine lv_iconst (v := 2) hx hb dL_law_253 (by decide) ?_
  refine lv_iadd hx hb dL_law_254 ?_
  refine W.eq (g2 := F0 m 255 ls [.int (nI (5 * j + 2)), .ref b, .int (xs (5 * j + 1)), .ref mo]) (by rw [show nI (5 * j) + 2 = nI (5 * j + 2) from nI_add _ 2]) ?_
  refine va_sld hx hb hX hbl hbA (law_S hIc) (vp_in_nI (by omega) (by omega)) dL_law_255 ?_
  refine W.eq (g2 := F0 m 256 ls [.int (xs (5 * j + 2)), .int (xs (5 * j + 1)), .ref mo]) (by rw [nI_clamp (by omega)]) ?_
  refine g_callV2 (own := RL) (index := 27) (n := 2) hx hb hml hown hts (c_X11_share l E _ _ _ ma _ hM nn hw (xs (5 * j + 1)) (xs (5 * j + 2))) hM.1 rfl rfl m_ml_L_27 m_im_X11_share m_se_X11_X11_share_X11_share m_in_X11 m_co_X11_share (by decide +kernel) ⟨Nat.le_of_ble_eq_true rfl, Nat.le_of_ble_eq_true rfl⟩ ⟨show cells + 2 + 0 ≤ 600000 by omega, show slots + 160 + 0 ≤ 7302250 by omega⟩ rfl hl.1 rfl (Nat.le_of_ble_eq_true rfl) dL_law_256 hK hIm hIc (fun q => (hd q).symm) (fun r Gm H locs hp hIm hIc hd => ?_)
  obtain ⟨v, rfl, ev, hM⟩ := hp
  subst ev
  refine W.eq (g2 := F0 m 259 ls [.int ((sp_share A (xs (5 * j + 1)) (xs (5 * j + 2))).1)]) rfl ?_
  refine lv_pop hx hb dL_law_259 rfl ?_
  refine lv_goto (tgt := 881) hx hb dL_law_260 (by decide) ?_
  exact kk _ n1 _ _ hn1 ⟨Gc, Gm, aa1, ma, hS1, hM, hIc, hIm, fun q => (hd q).symm⟩
set_option maxHeartbeats 4000000 in
set_option maxRecDepth 100000 in
theorem law_case_3 {p : Program} {e : Env} {s : State} {m : MethodId} {below : List Frame} {meth : Method} {c : Code} (l : Launch) {b L : Nat} {xs : Nat → Int32} {E : gE} (hx : p.tables.exec = Jvm.exec) (hb : c.code = code) (hml : c.maxLocals = 4) (hown : s.vm.findClass RL = some m.cls) (hts : ∀ w ∈ wsL_law, w.before #[Value.ref b] s = true) (hX : va_X b L xs s s.heap) (hbl : b < s.heap.size) (hK : gK E s) {x mo j nn cells slots : Nat} {A : gA} {H : Heap} {locs : List Loc} {ls : Array Slot} {Q : State → Prop} (hJ : 5 * j + 5 ≤ L) (hL : L ≤ 2560) (hnj : nn ≤ j) (hz : j = 0 → A = zA) (hIx : LI E s x mo A nn H locs) (hl : lv_has ls 4 [(3, .int (nI (5 * j))), (0, .ref b), (1, .ref x), (2, .ref mo)]) (hce : cells + 2 ≤ 600000) (hsl : slots + 160 ≤ 7302250)
    (kk : ∀ (A1 : gA) (n1 : Nat) (H1 : Heap) (locs1 : List Loc), n1 ≤ nn + 1 → LI E s x mo A1 n1 H1 locs1 → W p l e room_1 s m #[Value.ref b] below meth c H1 locs1 (cells + 2) (slots + 160) Q (F0 m 881 ls [])) : W p l e room_1 s m #[Value.ref b] below meth c H locs cells slots Q (F0 m 263 ls []) := by
  obtain ⟨Gc, Gm, aa, ma, hS, hM, hIc, hIm, hd⟩ := hIx
  have hbA : ¬ (fun q : Nat => s.heap.size ≤ q) b := Nat.not_le.mpr hbl
  have hw : wfb A nn := ⟨hS.1, by omega⟩
  refine lv_aload_n hx hb dL_law_263 rfl (lv_at hl 2 rfl) ?_
  refine lv_aload_n hx hb dL_law_264 rfl (lv_at hl 1 rfl) ?_
  refine lv_iload_n hx hb dL_law_265 rfl (lv_at hl 0 rfl) ?_
  refine lv_iconst (v := 1) hx hb dL_law_266 (by decide) ?_
  refine lv_iadd hx hb dL_law_267 ?_
  refine W.eq (g2 := F0 m 268 ls [.int (nI (5 * j + 1)), .ref b, .ref x]) (by rw [show nI (5 * j) + 1 = nI (5 * j + 1) from nI_add _ 1]) ?_
  refine va_sld hx hb hX hbl hbA (law_S hIc) (vp_in_nI (by omega) (by omega)) dL_law_268 ?_
  refine W.eq (g2 := F0 m 269 ls [.int (xs (5 * j + 1)), .ref x]) (by rw [nI_clamp (by omega)]) ?_
  refine g_callV2 (own := RL) (index := 28) (n := 1) hx hb hml hown hts (c_X10_clear l E _ _ _ aa _ nn hS (by omega) (xs (5 * j + 1))) hS.yc' rfl rfl m_ml_L_28 m_im_X10_clear m_se_X10_X10_clear_X10_clear m_in_X10 m_co_X10_clear (by decide +kernel) ⟨Nat.le_of_ble_eq_true rfl, Nat.le_of_ble_eq_true rfl⟩ ⟨hce, hsl⟩ rfl hl.1 rfl (Nat.le_of_ble_eq_true rfl) dL_law_269 hK hIc hIm hd (fun r Gc H locs hp hIc hIm hd => ?_)
  obtain ⟨v, rfl, ev, aa1, n1, hn1, hS1⟩ := hp
  subst ev
  refine W.eq (g2 := F0 m 272 ls [.int ((sp_clear A (xs (5 * j + 1))).1)]) rfl ?_
  refine lv_pop hx hb dL_law_272 rfl ?_
  refine lv_aload_n hx hb dL_law_273 rfl (lv_at hl 3 rfl) ?_
  refine lv_aload_n hx hb dL_law_274 rfl (lv_at hl 1 rfl) ?_
  refine lv_iload_n hx hb dL_law_275 rfl (lv_at hl 0 rfl) ?_
  refine lv_iconst (v := 1) hx hb dL_law_276 (by decide) ?_
  refine lv_iadd hx hb dL_law_277 ?_
  refine W.eq (g2 := F0 m 278 ls [.int (nI (5 * j + 1)), .ref b, .ref mo]) (by rw [show nI (5 * j) + 1 = nI (5 * j + 1) from nI_add _ 1]) ?_
  refine va_sld hx hb hX hbl hbA (law_S hIc) (vp_in_nI (by omega) (by omega)) dL_law_278 ?_
  refine W.eq (g2 := F0 m 279 ls [.int (xs (5 * j + 1)), .ref mo]) (by rw [nI_clamp (by omega)]) ?_
  refine g_callV2 (own := RL) (index := 32) (n := 1) hx hb hml hown hts (c_X11_clear l E _ _ _ ma _ hM nn hw (xs (5 * j + 1))) hM.1 rfl rfl m_ml_L_32 m_im_X11_clear m_se_X11_X11_clear_X11_clear m_in_X11 m_co_X11_clear (by decide +kernel) ⟨Nat.le_of_ble_eq_true rfl, Nat.le_of_ble_eq_true rfl⟩ ⟨show cells + 2 + 0 ≤ 600000 by omega, show slots + 160 + 0 ≤ 7302250 by omega⟩ rfl hl.1 rfl (Nat.le_of_ble_eq_true rfl) dL_law_279 hK hIm hIc (fun q => (hd q).symm) (fun r Gm H locs hp hIm hIc hd => ?_)
  obtain ⟨v, rfl, ev, hM⟩ := hp
  subst ev
  refine W.eq (g2 := F0 m 282 ls [.int ((sp_clear A (xs (5 * j + 1))).1)]) rfl ?_
  refine lv_pop hx hb dL_law_282 rfl ?_
  refine lv_goto (tgt := 881) hx hb dL_law_283 (by decide) ?_
  exact kk _ n1 _ _ hn1 ⟨Gc, Gm, aa1, ma, hS1, hM, hIc, hIm, fun q => (hd q).symm⟩
set_option maxHeartbeats 4000000 in
set_option maxRecDepth 100000 in
theorem law_case_4 {p : Program} {e : Env} {s : State} {m : MethodId} {below : List Frame} {meth : Method} {c : Code} (l : Launch) {b L : Nat} {xs : Nat → Int32} {E : gE} (hx : p.tables.exec = Jvm.exec) (hb : c.code = code) (hml : c.maxLocals = 4) (hown : s.vm.findClass RL = some m.cls) (hts : ∀ w ∈ wsL_law, w.before #[Value.ref b] s = true) (hX : va_X b L xs s s.heap) (hbl : b < s.heap.size) (hK : gK E s) {x mo j nn cells slots : Nat} {A : gA} {H : Heap} {locs : List Loc} {ls : Array Slot} {Q : State → Prop} (hJ : 5 * j + 5 ≤ L) (hL : L ≤ 2560) (hnj : nn ≤ j) (hz : j = 0 → A = zA) (hIx : LI E s x mo A nn H locs) (hl : lv_has ls 4 [(3, .int (nI (5 * j))), (0, .ref b), (1, .ref x), (2, .ref mo)]) (hce : cells + 2 ≤ 600000) (hsl : slots + 160 ≤ 7302250)
    (kk : ∀ (A1 : gA) (n1 : Nat) (H1 : Heap) (locs1 : List Loc), n1 ≤ nn + 1 → LI E s x mo A1 n1 H1 locs1 → W p l e room_1 s m #[Value.ref b] below meth c H1 locs1 (cells + 2) (slots + 160) Q (F0 m 881 ls [])) : W p l e room_1 s m #[Value.ref b] below meth c H locs cells slots Q (F0 m 286 ls []) := by
  obtain ⟨Gc, Gm, aa, ma, hS, hM, hIc, hIm, hd⟩ := hIx
  have hbA : ¬ (fun q : Nat => s.heap.size ≤ q) b := Nat.not_le.mpr hbl
  have hw : wfb A nn := ⟨hS.1, by omega⟩
  refine lv_aload_n hx hb dL_law_286 rfl (lv_at hl 2 rfl) ?_
  refine lv_aload_n hx hb dL_law_287 rfl (lv_at hl 1 rfl) ?_
  refine lv_iload_n hx hb dL_law_288 rfl (lv_at hl 0 rfl) ?_
  refine lv_iconst (v := 1) hx hb dL_law_289 (by decide) ?_
  refine lv_iadd hx hb dL_law_290 ?_
  refine W.eq (g2 := F0 m 291 ls [.int (nI (5 * j + 1)), .ref b, .ref x]) (by rw [show nI (5 * j) + 1 = nI (5 * j + 1) from nI_add _ 1]) ?_
  refine va_sld hx hb hX hbl hbA (law_S hIc) (vp_in_nI (by omega) (by omega)) dL_law_291 ?_
  refine W.eq (g2 := F0 m 292 ls [.int (xs (5 * j + 1)), .ref x]) (by rw [nI_clamp (by omega)]) ?_
  refine lv_aload_n hx hb dL_law_292 rfl (lv_at hl 1 rfl) ?_
  refine lv_iload_n hx hb dL_law_293 rfl (lv_at hl 0 rfl) ?_
  refine lv_iconst (v := 2) hx hb dL_law_294 (by decide) ?_
  refine lv_iadd hx hb dL_law_295 ?_
  refine W.eq (g2 := F0 m 296 ls [.int (nI (5 * j + 2)), .ref b, .int (xs (5 * j + 1)), .ref x]) (by rw [show nI (5 * j) + 2 = nI (5 * j + 2) from nI_add _ 2]) ?_
  refine va_sld hx hb hX hbl hbA (law_S hIc) (vp_in_nI (by omega) (by omega)) dL_law_296 ?_
  refine W.eq (g2 := F0 m 297 ls [.int (xs (5 * j + 2)), .int (xs (5 * j + 1)), .ref x]) (by rw [nI_clamp (by omega)]) ?_
  refine lv_aload_n hx hb dL_law_297 rfl (lv_at hl 1 rfl) ?_
  refine lv_iload_n hx hb dL_law_298 rfl (lv_at hl 0 rfl) ?_
  refine lv_iconst (v := 3) hx hb dL_law_299 (by decide) ?_
  refine lv_iadd hx hb dL_law_300 ?_
  refine W.eq (g2 := F0 m 301 ls [.int (nI (5 * j + 3)), .ref b, .int (xs (5 * j + 2)), .int (xs (5 * j + 1)), .ref x]) (by rw [show nI (5 * j) + 3 = nI (5 * j + 3) from nI_add _ 3]) ?_
  refine va_sld hx hb hX hbl hbA (law_S hIc) (vp_in_nI (by omega) (by omega)) dL_law_301 ?_
  refine W.eq (g2 := F0 m 302 ls [.int (xs (5 * j + 3)), .int (xs (5 * j + 2)), .int (xs (5 * j + 1)), .ref x]) (by rw [nI_clamp (by omega)]) ?_
  refine g_callV2 (own := RL) (index := 33) (n := 3) hx hb hml hown hts (c_X10_give l E _ _ _ aa _ nn hS (by omega) (xs (5 * j + 1)) (xs (5 * j + 2)) (xs (5 * j + 3))) hS.yc' rfl rfl m_ml_L_33 m_im_X10_give m_se_X10_X10_give_X10_give m_in_X10 m_co_X10_give (by decide +kernel) ⟨Nat.le_of_ble_eq_true rfl, Nat.le_of_ble_eq_true rfl⟩ ⟨hce, hsl⟩ rfl hl.1 rfl (Nat.le_of_ble_eq_true rfl) dL_law_302 hK hIc hIm hd (fun r Gc H locs hp hIc hIm hd => ?_)
  obtain ⟨v, rfl, ev, aa1, n1, hn1, hS1⟩ := hp
  subst ev
  refine W.eq (g2 := F0 m 305 ls [.int ((sp_give A (xs (5 * j + 1)) (xs (5 * j + 2)) (xs (5 * j + 3))).1)]) rfl ?_
  refine lv_pop hx hb dL_law_305 rfl ?_
  refine lv_aload_n hx hb dL_law_306 rfl (lv_at hl 3 rfl) ?_
  refine lv_aload_n hx hb dL_law_307 rfl (lv_at hl 1 rfl) ?_
  refine lv_iload_n hx hb dL_law_308 rfl (lv_at hl 0 rfl) ?_
  refine lv_iconst (v := 1) hx hb dL_law_309 (by decide) ?_
  refine lv_iadd hx hb dL_law_310 ?_
  refine W.eq (g2 := F0 m 311 ls [.int (nI (5 * j + 1)), .ref b, .ref mo]) (by rw [show nI (5 * j) + 1 = nI (5 * j + 1) from nI_add _ 1]) ?_
  refine va_sld hx hb hX hbl hbA (law_S hIc) (vp_in_nI (by omega) (by omega)) dL_law_311 ?_
  refine W.eq (g2 := F0 m 312 ls [.int (xs (5 * j + 1)), .ref mo]) (by rw [nI_clamp (by omega)]) ?_
  refine lv_aload_n hx hb dL_law_312 rfl (lv_at hl 1 rfl) ?_
  refine lv_iload_n hx hb dL_law_313 rfl (lv_at hl 0 rfl) ?_
  refine lv_iconst (v := 2) hx hb dL_law_314 (by decide) ?_
  refine lv_iadd hx hb dL_law_315 ?_
  refine W.eq (g2 := F0 m 316 ls [.int (nI (5 * j + 2)), .ref b, .int (xs (5 * j + 1)), .ref mo]) (by rw [show nI (5 * j) + 2 = nI (5 * j + 2) from nI_add _ 2]) ?_
  refine va_sld hx hb hX hbl hbA (law_S hIc) (vp_in_nI (by omega) (by omega)) dL_law_316 ?_
  refine W.eq (g2 := F0 m 317 ls [.int (xs (5 * j + 2)), .int (xs (5 * j + 1)), .ref mo]) (by rw [nI_clamp (by omega)]) ?_
  refine lv_aload_n hx hb dL_law_317 rfl (lv_at hl 1 rfl) ?_
  refine lv_iload_n hx hb dL_law_318 rfl (lv_at hl 0 rfl) ?_
  refine lv_iconst (v := 3) hx hb dL_law_319 (by decide) ?_
  refine lv_iadd hx hb dL_law_320 ?_
  refine W.eq (g2 := F0 m 321 ls [.int (nI (5 * j + 3)), .ref b, .int (xs (5 * j + 2)), .int (xs (5 * j + 1)), .ref mo]) (by rw [show nI (5 * j) + 3 = nI (5 * j + 3) from nI_add _ 3]) ?_
  refine va_sld hx hb hX hbl hbA (law_S hIc) (vp_in_nI (by omega) (by omega)) dL_law_321 ?_
  refine W.eq (g2 := F0 m 322 ls [.int (xs (5 * j + 3)), .int (xs (5 * j + 2)), .int (xs (5 * j + 1)), .ref mo]) (by rw [nI_clamp (by omega)]) ?_
  refine g_callV2 (own := RL) (index := 36) (n := 3) hx hb hml hown hts (c_X11_give l E _ _ _ ma _ hM nn hw (xs (5 * j + 1)) (xs (5 * j + 2)) (xs (5 * j + 3))) hM.1 rfl rfl m_ml_L_36 m_im_X11_give m_se_X11_X11_give_X11_give m_in_X11 m_co_X11_give (by decide +kernel) ⟨Nat.le_of_ble_eq_true rfl, Nat.le_of_ble_eq_true rfl⟩ ⟨show cells + 2 + 0 ≤ 600000 by omega, show slots + 160 + 0 ≤ 7302250 by omega⟩ rfl hl.1 rfl (Nat.le_of_ble_eq_true rfl) dL_law_322 hK hIm hIc (fun q => (hd q).symm) (fun r Gm H locs hp hIm hIc hd => ?_)
  obtain ⟨v, rfl, ev, hM⟩ := hp
  subst ev
  refine W.eq (g2 := F0 m 325 ls [.int ((sp_give A (xs (5 * j + 1)) (xs (5 * j + 2)) (xs (5 * j + 3))).1)]) rfl ?_
  refine lv_pop hx hb dL_law_325 rfl ?_
  refine lv_goto (tgt := 881) hx hb dL_law_326 (by decide) ?_
  exact kk _ n1 _ _ hn1 ⟨Gc, Gm, aa1, ma, hS1, hM, hIc, hIm, fun q => (hd q).symm⟩
set_option maxHeartbeats 4000000 in
set_option maxRecDepth 100000 in
theorem law_case_5 {p : Program} {e : Env} {s : State} {m : MethodId} {below : List Frame} {meth : Method} {c : Code} (l : Launch) {b L : Nat} {xs : Nat → Int32} {E : gE} (hx : p.tables.exec = Jvm.exec) (hb : c.code = code) (hml : c.maxLocals = 4) (hown : s.vm.findClass RL = some m.cls) (hts : ∀ w ∈ wsL_law, w.before #[Value.ref b] s = true) (hX : va_X b L xs s s.heap) (hbl : b < s.heap.size) (hK : gK E s) {x mo j nn cells slots : Nat} {A : gA} {H : Heap} {locs : List Loc} {ls : Array Slot} {Q : State → Prop} (hJ : 5 * j + 5 ≤ L) (hL : L ≤ 2560) (hnj : nn ≤ j) (hz : j = 0 → A = zA) (hIx : LI E s x mo A nn H locs) (hl : lv_has ls 4 [(3, .int (nI (5 * j))), (0, .ref b), (1, .ref x), (2, .ref mo)]) (hce : cells + 2 ≤ 600000) (hsl : slots + 160 ≤ 7302250)
    (kk : ∀ (A1 : gA) (n1 : Nat) (H1 : Heap) (locs1 : List Loc), n1 ≤ nn + 1 → LI E s x mo A1 n1 H1 locs1 → W p l e room_1 s m #[Value.ref b] below meth c H1 locs1 (cells + 2) (slots + 160) Q (F0 m 881 ls [])) : W p l e room_1 s m #[Value.ref b] below meth c H locs cells slots Q (F0 m 329 ls []) := by
  obtain ⟨Gc, Gm, aa, ma, hS, hM, hIc, hIm, hd⟩ := hIx
  have hbA : ¬ (fun q : Nat => s.heap.size ≤ q) b := Nat.not_le.mpr hbl
  have hw : wfb A nn := ⟨hS.1, by omega⟩
  refine lv_aload_n hx hb dL_law_329 rfl (lv_at hl 2 rfl) ?_
  refine lv_aload_n hx hb dL_law_330 rfl (lv_at hl 1 rfl) ?_
  refine lv_iload_n hx hb dL_law_331 rfl (lv_at hl 0 rfl) ?_
  refine lv_iconst (v := 1) hx hb dL_law_332 (by decide) ?_
  refine lv_iadd hx hb dL_law_333 ?_
  refine W.eq (g2 := F0 m 334 ls [.int (nI (5 * j + 1)), .ref b, .ref x]) (by rw [show nI (5 * j) + 1 = nI (5 * j + 1) from nI_add _ 1]) ?_
  refine va_sld hx hb hX hbl hbA (law_S hIc) (vp_in_nI (by omega) (by omega)) dL_law_334 ?_
  refine W.eq (g2 := F0 m 335 ls [.int (xs (5 * j + 1)), .ref x]) (by rw [nI_clamp (by omega)]) ?_
  refine lv_aload_n hx hb dL_law_335 rfl (lv_at hl 1 rfl) ?_
  refine lv_iload_n hx hb dL_law_336 rfl (lv_at hl 0 rfl) ?_
  refine lv_iconst (v := 2) hx hb dL_law_337 (by decide) ?_
  refine lv_iadd hx hb dL_law_338 ?_
  refine W.eq (g2 := F0 m 339 ls [.int (nI (5 * j + 2)), .ref b, .int (xs (5 * j + 1)), .ref x]) (by rw [show nI (5 * j) + 2 = nI (5 * j + 2) from nI_add _ 2]) ?_
  refine va_sld hx hb hX hbl hbA (law_S hIc) (vp_in_nI (by omega) (by omega)) dL_law_339 ?_
  refine W.eq (g2 := F0 m 340 ls [.int (xs (5 * j + 2)), .int (xs (5 * j + 1)), .ref x]) (by rw [nI_clamp (by omega)]) ?_
  refine g_callV2 (own := RL) (index := 37) (n := 2) hx hb hml hown hts (c_X10_row l E _ _ _ aa _ nn hS (by omega) (xs (5 * j + 1)) (xs (5 * j + 2))) hS.yc' rfl rfl m_ml_L_37 m_im_X10_row m_se_X10_X10_row_X10_row m_in_X10 m_co_X10_row (by decide +kernel) ⟨Nat.le_of_ble_eq_true rfl, Nat.le_of_ble_eq_true rfl⟩ ⟨hce, hsl⟩ rfl hl.1 rfl (Nat.le_of_ble_eq_true rfl) dL_law_340 hK hIc hIm hd (fun r Gc H locs hp hIc hIm hd => ?_)
  obtain ⟨v, rfl, ev, aa1, n1, hn1, hS1⟩ := hp
  subst ev
  refine W.eq (g2 := F0 m 343 ls [.int ((sp_row A (xs (5 * j + 1)) (xs (5 * j + 2))).1)]) rfl ?_
  refine lv_pop hx hb dL_law_343 rfl ?_
  refine lv_aload_n hx hb dL_law_344 rfl (lv_at hl 3 rfl) ?_
  refine lv_aload_n hx hb dL_law_345 rfl (lv_at hl 1 rfl) ?_
  refine lv_iload_n hx hb dL_law_346 rfl (lv_at hl 0 rfl) ?_
  refine lv_iconst (v := 1) hx hb dL_law_347 (by decide) ?_
  refine lv_iadd hx hb dL_law_348 ?_
  refine W.eq (g2 := F0 m 349 ls [.int (nI (5 * j + 1)), .ref b, .ref mo]) (by rw [show nI (5 * j) + 1 = nI (5 * j + 1) from nI_add _ 1]) ?_
  refine va_sld hx hb hX hbl hbA (law_S hIc) (vp_in_nI (by omega) (by omega)) dL_law_349 ?_
  refine W.eq (g2 := F0 m 350 ls [.int (xs (5 * j + 1)), .ref mo]) (by rw [nI_clamp (by omega)]) ?_
  refine lv_aload_n hx hb dL_law_350 rfl (lv_at hl 1 rfl) ?_
  refine lv_iload_n hx hb dL_law_351 rfl (lv_at hl 0 rfl) ?_
  refine lv_iconst (v := 2) hx hb dL_law_352 (by decide) ?_
  refine lv_iadd hx hb dL_law_353 ?_
  refine W.eq (g2 := F0 m 354 ls [.int (nI (5 * j + 2)), .ref b, .int (xs (5 * j + 1)), .ref mo]) (by rw [show nI (5 * j) + 2 = nI (5 * j + 2) from nI_add _ 2]) ?_
  refine va_sld hx hb hX hbl hbA (law_S hIc) (vp_in_nI (by omega) (by omega)) dL_law_354 ?_
  refine W.eq (g2 := F0 m 355 ls [.int (xs (5 * j + 2)), .int (xs (5 * j + 1)), .ref mo]) (by rw [nI_clamp (by omega)]) ?_
  refine g_callV2 (own := RL) (index := 40) (n := 2) hx hb hml hown hts (c_X11_row l E _ _ _ ma _ hM nn hw (xs (5 * j + 1)) (xs (5 * j + 2))) hM.1 rfl rfl m_ml_L_40 m_im_X11_row m_se_X11_X11_row_X11_row m_in_X11 m_co_X11_row (by decide +kernel) ⟨Nat.le_of_ble_eq_true rfl, Nat.le_of_ble_eq_true rfl⟩ ⟨show cells + 2 + 0 ≤ 600000 by omega, show slots + 160 + 0 ≤ 7302250 by omega⟩ rfl hl.1 rfl (Nat.le_of_ble_eq_true rfl) dL_law_355 hK hIm hIc (fun q => (hd q).symm) (fun r Gm H locs hp hIm hIc hd => ?_)
  obtain ⟨v, rfl, ev, hM⟩ := hp
  subst ev
  refine W.eq (g2 := F0 m 358 ls [.int ((sp_row A (xs (5 * j + 1)) (xs (5 * j + 2))).1)]) rfl ?_
  refine lv_pop hx hb dL_law_358 rfl ?_
  refine lv_goto (tgt := 881) hx hb dL_law_359 (by decide) ?_
  exact kk _ n1 _ _ hn1 ⟨Gc, Gm, aa1, ma, hS1, hM, hIc, hIm, fun q => (hd q).symm⟩
set_option maxHeartbeats 4000000 in
set_option maxRecDepth 100000 in
theorem law_case_6 {p : Program} {e : Env} {s : State} {m : MethodId} {below : List Frame} {meth : Method} {c : Code} (l : Launch) {b L : Nat} {xs : Nat → Int32} {E : gE} (hx : p.tables.exec = Jvm.exec) (hb : c.code = code) (hml : c.maxLocals = 4) (hown : s.vm.findClass RL = some m.cls) (hts : ∀ w ∈ wsL_law, w.before #[Value.ref b] s = true) (hX : va_X b L xs s s.heap) (hbl : b < s.heap.size) (hK : gK E s) {x mo j nn cells slots : Nat} {A : gA} {H : Heap} {locs : List Loc} {ls : Array Slot} {Q : State → Prop} (hJ : 5 * j + 5 ≤ L) (hL : L ≤ 2560) (hnj : nn ≤ j) (hz : j = 0 → A = zA) (hIx : LI E s x mo A nn H locs) (hl : lv_has ls 4 [(3, .int (nI (5 * j))), (0, .ref b), (1, .ref x), (2, .ref mo)]) (hce : cells + 2 ≤ 600000) (hsl : slots + 160 ≤ 7302250)
    (kk : ∀ (A1 : gA) (n1 : Nat) (H1 : Heap) (locs1 : List Loc), n1 ≤ nn + 1 → LI E s x mo A1 n1 H1 locs1 → W p l e room_1 s m #[Value.ref b] below meth c H1 locs1 (cells + 2) (slots + 160) Q (F0 m 881 ls [])) : W p l e room_1 s m #[Value.ref b] below meth c H locs cells slots Q (F0 m 362 ls []) := by
  obtain ⟨Gc, Gm, aa, ma, hS, hM, hIc, hIm, hd⟩ := hIx
  have hbA : ¬ (fun q : Nat => s.heap.size ≤ q) b := Nat.not_le.mpr hbl
  have hw : wfb A nn := ⟨hS.1, by omega⟩
  refine lv_aload_n hx hb dL_law_362 rfl (lv_at hl 2 rfl) ?_
  refine lv_aload_n hx hb dL_law_363 rfl (lv_at hl 1 rfl) ?_
  refine lv_iload_n hx hb dL_law_364 rfl (lv_at hl 0 rfl) ?_
  refine lv_iconst (v := 1) hx hb dL_law_365 (by decide) ?_
  refine lv_iadd hx hb dL_law_366 ?_
  refine W.eq (g2 := F0 m 367 ls [.int (nI (5 * j + 1)), .ref b, .ref x]) (by rw [show nI (5 * j) + 1 = nI (5 * j + 1) from nI_add _ 1]) ?_
  refine va_sld hx hb hX hbl hbA (law_S hIc) (vp_in_nI (by omega) (by omega)) dL_law_367 ?_
  refine W.eq (g2 := F0 m 368 ls [.int (xs (5 * j + 1)), .ref x]) (by rw [nI_clamp (by omega)]) ?_
  refine g_callV2 (own := RL) (index := 41) (n := 1) hx hb hml hown hts (c_X10_strip l E _ _ _ aa _ nn hS (by omega) (xs (5 * j + 1))) hS.yc' rfl rfl m_ml_L_41 m_im_X10_strip m_se_X10_X10_strip_X10_strip m_in_X10 m_co_X10_strip (by decide +kernel) ⟨Nat.le_of_ble_eq_true rfl, Nat.le_of_ble_eq_true rfl⟩ ⟨hce, hsl⟩ rfl hl.1 rfl (Nat.le_of_ble_eq_true rfl) dL_law_368 hK hIc hIm hd (fun r Gc H locs hp hIc hIm hd => ?_)
  obtain ⟨v, rfl, ev, aa1, n1, hn1, hS1⟩ := hp
  subst ev
  refine W.eq (g2 := F0 m 371 ls [.int ((sp_strip A (xs (5 * j + 1))).1)]) rfl ?_
  refine lv_pop hx hb dL_law_371 rfl ?_
  refine lv_aload_n hx hb dL_law_372 rfl (lv_at hl 3 rfl) ?_
  refine lv_aload_n hx hb dL_law_373 rfl (lv_at hl 1 rfl) ?_
  refine lv_iload_n hx hb dL_law_374 rfl (lv_at hl 0 rfl) ?_
  refine lv_iconst (v := 1) hx hb dL_law_375 (by decide) ?_
  refine lv_iadd hx hb dL_law_376 ?_
  refine W.eq (g2 := F0 m 377 ls [.int (nI (5 * j + 1)), .ref b, .ref mo]) (by rw [show nI (5 * j) + 1 = nI (5 * j + 1) from nI_add _ 1]) ?_
  refine va_sld hx hb hX hbl hbA (law_S hIc) (vp_in_nI (by omega) (by omega)) dL_law_377 ?_
  refine W.eq (g2 := F0 m 378 ls [.int (xs (5 * j + 1)), .ref mo]) (by rw [nI_clamp (by omega)]) ?_
  refine g_callV2 (own := RL) (index := 44) (n := 1) hx hb hml hown hts (c_X11_strip l E _ _ _ ma _ hM nn hw (xs (5 * j + 1))) hM.1 rfl rfl m_ml_L_44 m_im_X11_strip m_se_X11_X11_strip_X11_strip m_in_X11 m_co_X11_strip (by decide +kernel) ⟨Nat.le_of_ble_eq_true rfl, Nat.le_of_ble_eq_true rfl⟩ ⟨show cells + 2 + 0 ≤ 600000 by omega, show slots + 160 + 0 ≤ 7302250 by omega⟩ rfl hl.1 rfl (Nat.le_of_ble_eq_true rfl) dL_law_378 hK hIm hIc (fun q => (hd q).symm) (fun r Gm H locs hp hIm hIc hd => ?_)
  obtain ⟨v, rfl, ev, hM⟩ := hp
  subst ev
  refine W.eq (g2 := F0 m 381 ls [.int ((sp_strip A (xs (5 * j + 1))).1)]) rfl ?_
  refine lv_pop hx hb dL_law_381 rfl ?_
  refine lv_goto (tgt := 881) hx hb dL_law_382 (by decide) ?_
  exact kk _ n1 _ _ hn1 ⟨Gc, Gm, aa1, ma, hS1, hM, hIc, hIm, fun q => (hd q).symm⟩
set_option maxHeartbeats 4000000 in
set_option maxRecDepth 100000 in
theorem law_case_7 {p : Program} {e : Env} {s : State} {m : MethodId} {below : List Frame} {meth : Method} {c : Code} (l : Launch) {b L : Nat} {xs : Nat → Int32} {E : gE} (hx : p.tables.exec = Jvm.exec) (hb : c.code = code) (hml : c.maxLocals = 4) (hown : s.vm.findClass RL = some m.cls) (hts : ∀ w ∈ wsL_law, w.before #[Value.ref b] s = true) (hX : va_X b L xs s s.heap) (hbl : b < s.heap.size) (hK : gK E s) {x mo j nn cells slots : Nat} {A : gA} {H : Heap} {locs : List Loc} {ls : Array Slot} {Q : State → Prop} (hJ : 5 * j + 5 ≤ L) (hL : L ≤ 2560) (hnj : nn ≤ j) (hz : j = 0 → A = zA) (hIx : LI E s x mo A nn H locs) (hl : lv_has ls 4 [(3, .int (nI (5 * j))), (0, .ref b), (1, .ref x), (2, .ref mo)]) (hce : cells + 2 ≤ 600000) (hsl : slots + 160 ≤ 7302250)
    (kk : ∀ (A1 : gA) (n1 : Nat) (H1 : Heap) (locs1 : List Loc), n1 ≤ nn + 1 → LI E s x mo A1 n1 H1 locs1 → W p l e room_1 s m #[Value.ref b] below meth c H1 locs1 (cells + 2) (slots + 160) Q (F0 m 881 ls [])) : W p l e room_1 s m #[Value.ref b] below meth c H locs cells slots Q (F0 m 385 ls []) := by
  obtain ⟨Gc, Gm, aa, ma, hS, hM, hIc, hIm, hd⟩ := hIx
  have hbA : ¬ (fun q : Nat => s.heap.size ≤ q) b := Nat.not_le.mpr hbl
  have hw : wfb A nn := ⟨hS.1, by omega⟩
  refine lv_aload_n hx hb dL_law_385 rfl (lv_at hl 2 rfl) ?_
  refine lv_aload_n hx hb dL_law_386 rfl (lv_at hl 1 rfl) ?_
  refine lv_iload_n hx hb dL_law_387 rfl (lv_at hl 0 rfl) ?_
  refine lv_iconst (v := 1) hx hb dL_law_388 (by decide) ?_
  refine lv_iadd hx hb dL_law_389 ?_
  refine W.eq (g2 := F0 m 390 ls [.int (nI (5 * j + 1)), .ref b, .ref x]) (by rw [show nI (5 * j) + 1 = nI (5 * j + 1) from nI_add _ 1]) ?_
  refine va_sld hx hb hX hbl hbA (law_S hIc) (vp_in_nI (by omega) (by omega)) dL_law_390 ?_
  refine W.eq (g2 := F0 m 391 ls [.int (xs (5 * j + 1)), .ref x]) (by rw [nI_clamp (by omega)]) ?_
  refine lv_aload_n hx hb dL_law_391 rfl (lv_at hl 1 rfl) ?_
  refine lv_iload_n hx hb dL_law_392 rfl (lv_at hl 0 rfl) ?_
  refine lv_iconst (v := 2) hx hb dL_law_393 (by decide) ?_
  refine lv_iadd hx hb dL_law_394 ?_
  refine W.eq (g2 := F0 m 395 ls [.int (nI (5 * j + 2)), .ref b, .int (xs (5 * j + 1)), .ref x]) (by rw [show nI (5 * j) + 2 = nI (5 * j + 2) from nI_add _ 2]) ?_
  refine va_sld hx hb hX hbl hbA (law_S hIc) (vp_in_nI (by omega) (by omega)) dL_law_395 ?_
  refine W.eq (g2 := F0 m 396 ls [.int (xs (5 * j + 2)), .int (xs (5 * j + 1)), .ref x]) (by rw [nI_clamp (by omega)]) ?_
  refine lv_aload_n hx hb dL_law_396 rfl (lv_at hl 1 rfl) ?_
  refine lv_iload_n hx hb dL_law_397 rfl (lv_at hl 0 rfl) ?_
  refine lv_iconst (v := 3) hx hb dL_law_398 (by decide) ?_
  refine lv_iadd hx hb dL_law_399 ?_
  refine W.eq (g2 := F0 m 400 ls [.int (nI (5 * j + 3)), .ref b, .int (xs (5 * j + 2)), .int (xs (5 * j + 1)), .ref x]) (by rw [show nI (5 * j) + 3 = nI (5 * j + 3) from nI_add _ 3]) ?_
  refine va_sld hx hb hX hbl hbA (law_S hIc) (vp_in_nI (by omega) (by omega)) dL_law_400 ?_
  refine W.eq (g2 := F0 m 401 ls [.int (xs (5 * j + 3)), .int (xs (5 * j + 2)), .int (xs (5 * j + 1)), .ref x]) (by rw [nI_clamp (by omega)]) ?_
  refine g_callV2 (own := RL) (index := 45) (n := 3) hx hb hml hown hts (c_X10_comb l E _ _ _ aa _ nn hS (by omega) (xs (5 * j + 1)) (xs (5 * j + 2)) (xs (5 * j + 3))) hS.yc' rfl rfl m_ml_L_45 m_im_X10_comb m_se_X10_X10_comb_X10_comb m_in_X10 m_co_X10_comb (by decide +kernel) ⟨Nat.le_of_ble_eq_true rfl, Nat.le_of_ble_eq_true rfl⟩ ⟨hce, hsl⟩ rfl hl.1 rfl (Nat.le_of_ble_eq_true rfl) dL_law_401 hK hIc hIm hd (fun r Gc H locs hp hIc hIm hd => ?_)
  obtain ⟨v, rfl, ev, aa1, n1, hn1, hS1⟩ := hp
  subst ev
  refine W.eq (g2 := F0 m 404 ls [.int ((sp_comb A (xs (5 * j + 1)) (xs (5 * j + 2)) (xs (5 * j + 3))).1)]) rfl ?_
  refine lv_pop hx hb dL_law_404 rfl ?_
  refine lv_aload_n hx hb dL_law_405 rfl (lv_at hl 3 rfl) ?_
  refine lv_aload_n hx hb dL_law_406 rfl (lv_at hl 1 rfl) ?_
  refine lv_iload_n hx hb dL_law_407 rfl (lv_at hl 0 rfl) ?_
  refine lv_iconst (v := 1) hx hb dL_law_408 (by decide) ?_
  refine lv_iadd hx hb dL_law_409 ?_
  refine W.eq (g2 := F0 m 410 ls [.int (nI (5 * j + 1)), .ref b, .ref mo]) (by rw [show nI (5 * j) + 1 = nI (5 * j + 1) from nI_add _ 1]) ?_
  refine va_sld hx hb hX hbl hbA (law_S hIc) (vp_in_nI (by omega) (by omega)) dL_law_410 ?_
  refine W.eq (g2 := F0 m 411 ls [.int (xs (5 * j + 1)), .ref mo]) (by rw [nI_clamp (by omega)]) ?_
  refine lv_aload_n hx hb dL_law_411 rfl (lv_at hl 1 rfl) ?_
  refine lv_iload_n hx hb dL_law_412 rfl (lv_at hl 0 rfl) ?_
  refine lv_iconst (v := 2) hx hb dL_law_413 (by decide) ?_
  refine lv_iadd hx hb dL_law_414 ?_
  refine W.eq (g2 := F0 m 415 ls [.int (nI (5 * j + 2)), .ref b, .int (xs (5 * j + 1)), .ref mo]) (by rw [show nI (5 * j) + 2 = nI (5 * j + 2) from nI_add _ 2]) ?_
  refine va_sld hx hb hX hbl hbA (law_S hIc) (vp_in_nI (by omega) (by omega)) dL_law_415 ?_
  refine W.eq (g2 := F0 m 416 ls [.int (xs (5 * j + 2)), .int (xs (5 * j + 1)), .ref mo]) (by rw [nI_clamp (by omega)]) ?_
  refine lv_aload_n hx hb dL_law_416 rfl (lv_at hl 1 rfl) ?_
  refine lv_iload_n hx hb dL_law_417 rfl (lv_at hl 0 rfl) ?_
  refine lv_iconst (v := 3) hx hb dL_law_418 (by decide) ?_
  refine lv_iadd hx hb dL_law_419 ?_
  refine W.eq (g2 := F0 m 420 ls [.int (nI (5 * j + 3)), .ref b, .int (xs (5 * j + 2)), .int (xs (5 * j + 1)), .ref mo]) (by rw [show nI (5 * j) + 3 = nI (5 * j + 3) from nI_add _ 3]) ?_
  refine va_sld hx hb hX hbl hbA (law_S hIc) (vp_in_nI (by omega) (by omega)) dL_law_420 ?_
  refine W.eq (g2 := F0 m 421 ls [.int (xs (5 * j + 3)), .int (xs (5 * j + 2)), .int (xs (5 * j + 1)), .ref mo]) (by rw [nI_clamp (by omega)]) ?_
  refine g_callV2 (own := RL) (index := 48) (n := 3) hx hb hml hown hts (c_X11_comb l E _ _ _ ma _ hM nn hw (xs (5 * j + 1)) (xs (5 * j + 2)) (xs (5 * j + 3))) hM.1 rfl rfl m_ml_L_48 m_im_X11_comb m_se_X11_X11_comb_X11_comb m_in_X11 m_co_X11_comb (by decide +kernel) ⟨Nat.le_of_ble_eq_true rfl, Nat.le_of_ble_eq_true rfl⟩ ⟨show cells + 2 + 0 ≤ 600000 by omega, show slots + 160 + 0 ≤ 7302250 by omega⟩ rfl hl.1 rfl (Nat.le_of_ble_eq_true rfl) dL_law_421 hK hIm hIc (fun q => (hd q).symm) (fun r Gm H locs hp hIm hIc hd => ?_)
  obtain ⟨v, rfl, ev, hM⟩ := hp
  subst ev
  refine W.eq (g2 := F0 m 424 ls [.int ((sp_comb A (xs (5 * j + 1)) (xs (5 * j + 2)) (xs (5 * j + 3))).1)]) rfl ?_
  refine lv_pop hx hb dL_law_424 rfl ?_
  refine lv_goto (tgt := 881) hx hb dL_law_425 (by decide) ?_
  exact kk _ n1 _ _ hn1 ⟨Gc, Gm, aa1, ma, hS1, hM, hIc, hIm, fun q => (hd q).symm⟩
set_option maxHeartbeats 4000000 in
set_option maxRecDepth 100000 in
theorem law_case_8 {p : Program} {e : Env} {s : State} {m : MethodId} {below : List Frame} {meth : Method} {c : Code} (l : Launch) {b L : Nat} {xs : Nat → Int32} {E : gE} (hx : p.tables.exec = Jvm.exec) (hb : c.code = code) (hml : c.maxLocals = 4) (hown : s.vm.findClass RL = some m.cls) (hts : ∀ w ∈ wsL_law, w.before #[Value.ref b] s = true) (hX : va_X b L xs s s.heap) (hbl : b < s.heap.size) (hK : gK E s) {x mo j nn cells slots : Nat} {A : gA} {H : Heap} {locs : List Loc} {ls : Array Slot} {Q : State → Prop} (hJ : 5 * j + 5 ≤ L) (hL : L ≤ 2560) (hnj : nn ≤ j) (hz : j = 0 → A = zA) (hIx : LI E s x mo A nn H locs) (hl : lv_has ls 4 [(3, .int (nI (5 * j))), (0, .ref b), (1, .ref x), (2, .ref mo)]) (hce : cells + 2 ≤ 600000) (hsl : slots + 160 ≤ 7302250)
    (kk : ∀ (A1 : gA) (n1 : Nat) (H1 : Heap) (locs1 : List Loc), n1 ≤ nn + 1 → LI E s x mo A1 n1 H1 locs1 → W p l e room_1 s m #[Value.ref b] below meth c H1 locs1 (cells + 2) (slots + 160) Q (F0 m 881 ls [])) : W p l e room_1 s m #[Value.ref b] below meth c H locs cells slots Q (F0 m 428 ls []) := by
  obtain ⟨Gc, Gm, aa, ma, hS, hM, hIc, hIm, hd⟩ := hIx
  have hbA : ¬ (fun q : Nat => s.heap.size ≤ q) b := Nat.not_le.mpr hbl
  have hw : wfb A nn := ⟨hS.1, by omega⟩
  refine lv_aload_n hx hb dL_law_428 rfl (lv_at hl 2 rfl) ?_
  refine lv_aload_n hx hb dL_law_429 rfl (lv_at hl 1 rfl) ?_
  refine lv_iload_n hx hb dL_law_430 rfl (lv_at hl 0 rfl) ?_
  refine lv_iconst (v := 1) hx hb dL_law_431 (by decide) ?_
  refine lv_iadd hx hb dL_law_432 ?_
  refine W.eq (g2 := F0 m 433 ls [.int (nI (5 * j + 1)), .ref b, .ref x]) (by rw [show nI (5 * j) + 1 = nI (5 * j + 1) from nI_add _ 1]) ?_
  refine va_sld hx hb hX hbl hbA (law_S hIc) (vp_in_nI (by omega) (by omega)) dL_law_433 ?_
  refine W.eq (g2 := F0 m 434 ls [.int (xs (5 * j + 1)), .ref x]) (by rw [nI_clamp (by omega)]) ?_
  refine lv_aload_n hx hb dL_law_434 rfl (lv_at hl 1 rfl) ?_
  refine lv_iload_n hx hb dL_law_435 rfl (lv_at hl 0 rfl) ?_
  refine lv_iconst (v := 2) hx hb dL_law_436 (by decide) ?_
  refine lv_iadd hx hb dL_law_437 ?_
  refine W.eq (g2 := F0 m 438 ls [.int (nI (5 * j + 2)), .ref b, .int (xs (5 * j + 1)), .ref x]) (by rw [show nI (5 * j) + 2 = nI (5 * j + 2) from nI_add _ 2]) ?_
  refine va_sld hx hb hX hbl hbA (law_S hIc) (vp_in_nI (by omega) (by omega)) dL_law_438 ?_
  refine W.eq (g2 := F0 m 439 ls [.int (xs (5 * j + 2)), .int (xs (5 * j + 1)), .ref x]) (by rw [nI_clamp (by omega)]) ?_
  refine lv_aload_n hx hb dL_law_439 rfl (lv_at hl 1 rfl) ?_
  refine lv_iload_n hx hb dL_law_440 rfl (lv_at hl 0 rfl) ?_
  refine lv_iconst (v := 3) hx hb dL_law_441 (by decide) ?_
  refine lv_iadd hx hb dL_law_442 ?_
  refine W.eq (g2 := F0 m 443 ls [.int (nI (5 * j + 3)), .ref b, .int (xs (5 * j + 2)), .int (xs (5 * j + 1)), .ref x]) (by rw [show nI (5 * j) + 3 = nI (5 * j + 3) from nI_add _ 3]) ?_
  refine va_sld hx hb hX hbl hbA (law_S hIc) (vp_in_nI (by omega) (by omega)) dL_law_443 ?_
  refine W.eq (g2 := F0 m 444 ls [.int (xs (5 * j + 3)), .int (xs (5 * j + 2)), .int (xs (5 * j + 1)), .ref x]) (by rw [nI_clamp (by omega)]) ?_
  refine g_callV2 (own := RL) (index := 49) (n := 3) hx hb hml hown hts (c_X10_put l E _ _ _ aa _ nn hS (by omega) (xs (5 * j + 1)) (xs (5 * j + 2)) (xs (5 * j + 3))) hS.yc' rfl rfl m_ml_L_49 m_im_X10_put m_se_X10_X10_put_X10_put m_in_X10 m_co_X10_put (by decide +kernel) ⟨Nat.le_of_ble_eq_true rfl, Nat.le_of_ble_eq_true rfl⟩ ⟨hce, hsl⟩ rfl hl.1 rfl (Nat.le_of_ble_eq_true rfl) dL_law_444 hK hIc hIm hd (fun r Gc H locs hp hIc hIm hd => ?_)
  obtain ⟨v, rfl, ev, aa1, n1, hn1, hS1⟩ := hp
  subst ev
  refine W.eq (g2 := F0 m 447 ls [.int ((sp_put A (xs (5 * j + 1)) (xs (5 * j + 2)) (xs (5 * j + 3))).1)]) rfl ?_
  refine lv_pop hx hb dL_law_447 rfl ?_
  refine lv_aload_n hx hb dL_law_448 rfl (lv_at hl 3 rfl) ?_
  refine lv_aload_n hx hb dL_law_449 rfl (lv_at hl 1 rfl) ?_
  refine lv_iload_n hx hb dL_law_450 rfl (lv_at hl 0 rfl) ?_
  refine lv_iconst (v := 1) hx hb dL_law_451 (by decide) ?_
  refine lv_iadd hx hb dL_law_452 ?_
  refine W.eq (g2 := F0 m 453 ls [.int (nI (5 * j + 1)), .ref b, .ref mo]) (by rw [show nI (5 * j) + 1 = nI (5 * j + 1) from nI_add _ 1]) ?_
  refine va_sld hx hb hX hbl hbA (law_S hIc) (vp_in_nI (by omega) (by omega)) dL_law_453 ?_
  refine W.eq (g2 := F0 m 454 ls [.int (xs (5 * j + 1)), .ref mo]) (by rw [nI_clamp (by omega)]) ?_
  refine lv_aload_n hx hb dL_law_454 rfl (lv_at hl 1 rfl) ?_
  refine lv_iload_n hx hb dL_law_455 rfl (lv_at hl 0 rfl) ?_
  refine lv_iconst (v := 2) hx hb dL_law_456 (by decide) ?_
  refine lv_iadd hx hb dL_law_457 ?_
  refine W.eq (g2 := F0 m 458 ls [.int (nI (5 * j + 2)), .ref b, .int (xs (5 * j + 1)), .ref mo]) (by rw [show nI (5 * j) + 2 = nI (5 * j + 2) from nI_add _ 2]) ?_
  refine va_sld hx hb hX hbl hbA (law_S hIc) (vp_in_nI (by omega) (by omega)) dL_law_458 ?_
  refine W.eq (g2 := F0 m 459 ls [.int (xs (5 * j + 2)), .int (xs (5 * j + 1)), .ref mo]) (by rw [nI_clamp (by omega)]) ?_
  refine lv_aload_n hx hb dL_law_459 rfl (lv_at hl 1 rfl) ?_
  refine lv_iload_n hx hb dL_law_460 rfl (lv_at hl 0 rfl) ?_
  refine lv_iconst (v := 3) hx hb dL_law_461 (by decide) ?_
  refine lv_iadd hx hb dL_law_462 ?_
  refine W.eq (g2 := F0 m 463 ls [.int (nI (5 * j + 3)), .ref b, .int (xs (5 * j + 2)), .int (xs (5 * j + 1)), .ref mo]) (by rw [show nI (5 * j) + 3 = nI (5 * j + 3) from nI_add _ 3]) ?_
  refine va_sld hx hb hX hbl hbA (law_S hIc) (vp_in_nI (by omega) (by omega)) dL_law_463 ?_
  refine W.eq (g2 := F0 m 464 ls [.int (xs (5 * j + 3)), .int (xs (5 * j + 2)), .int (xs (5 * j + 1)), .ref mo]) (by rw [nI_clamp (by omega)]) ?_
  refine g_callV2 (own := RL) (index := 52) (n := 3) hx hb hml hown hts (c_X11_put l E _ _ _ ma _ hM nn hw (xs (5 * j + 1)) (xs (5 * j + 2)) (xs (5 * j + 3))) hM.1 rfl rfl m_ml_L_52 m_im_X11_put m_se_X11_X11_put_X11_put m_in_X11 m_co_X11_put (by decide +kernel) ⟨Nat.le_of_ble_eq_true rfl, Nat.le_of_ble_eq_true rfl⟩ ⟨show cells + 2 + 0 ≤ 600000 by omega, show slots + 160 + 0 ≤ 7302250 by omega⟩ rfl hl.1 rfl (Nat.le_of_ble_eq_true rfl) dL_law_464 hK hIm hIc (fun q => (hd q).symm) (fun r Gm H locs hp hIm hIc hd => ?_)
  obtain ⟨v, rfl, ev, hM⟩ := hp
  subst ev
  refine W.eq (g2 := F0 m 467 ls [.int ((sp_put A (xs (5 * j + 1)) (xs (5 * j + 2)) (xs (5 * j + 3))).1)]) rfl ?_
  refine lv_pop hx hb dL_law_467 rfl ?_
  refine lv_goto (tgt := 881) hx hb dL_law_468 (by decide) ?_
  exact kk _ n1 _ _ hn1 ⟨Gc, Gm, aa1, ma, hS1, hM, hIc, hIm, fun q => (hd q).symm⟩
set_option maxHeartbeats 4000000 in
set_option maxRecDepth 100000 in
theorem law_case_9 {p : Program} {e : Env} {s : State} {m : MethodId} {below : List Frame} {meth : Method} {c : Code} (l : Launch) {b L : Nat} {xs : Nat → Int32} {E : gE} (hx : p.tables.exec = Jvm.exec) (hb : c.code = code) (hml : c.maxLocals = 4) (hown : s.vm.findClass RL = some m.cls) (hts : ∀ w ∈ wsL_law, w.before #[Value.ref b] s = true) (hX : va_X b L xs s s.heap) (hbl : b < s.heap.size) (hK : gK E s) {x mo j nn cells slots : Nat} {A : gA} {H : Heap} {locs : List Loc} {ls : Array Slot} {Q : State → Prop} (hJ : 5 * j + 5 ≤ L) (hL : L ≤ 2560) (hnj : nn ≤ j) (hz : j = 0 → A = zA) (hIx : LI E s x mo A nn H locs) (hl : lv_has ls 4 [(3, .int (nI (5 * j))), (0, .ref b), (1, .ref x), (2, .ref mo)]) (hce : cells + 2 ≤ 600000) (hsl : slots + 160 ≤ 7302250)
    (kk : ∀ (A1 : gA) (n1 : Nat) (H1 : Heap) (locs1 : List Loc), n1 ≤ nn + 1 → LI E s x mo A1 n1 H1 locs1 → W p l e room_1 s m #[Value.ref b] below meth c H1 locs1 (cells + 2) (slots + 160) Q (F0 m 881 ls [])) : W p l e room_1 s m #[Value.ref b] below meth c H locs cells slots Q (F0 m 471 ls []) := by
  obtain ⟨Gc, Gm, aa, ma, hS, hM, hIc, hIm, hd⟩ := hIx
  have hbA : ¬ (fun q : Nat => s.heap.size ≤ q) b := Nat.not_le.mpr hbl
  have hw : wfb A nn := ⟨hS.1, by omega⟩
  refine lv_aload_n hx hb dL_law_471 rfl (lv_at hl 2 rfl) ?_
  refine lv_aload_n hx hb dL_law_472 rfl (lv_at hl 1 rfl) ?_
  refine lv_iload_n hx hb dL_law_473 rfl (lv_at hl 0 rfl) ?_
  refine lv_iconst (v := 1) hx hb dL_law_474 (by decide) ?_
  refine lv_iadd hx hb dL_law_475 ?_
  refine W.eq (g2 := F0 m 476 ls [.int (nI (5 * j + 1)), .ref b, .ref x]) (by rw [show nI (5 * j) + 1 = nI (5 * j + 1) from nI_add _ 1]) ?_
  refine va_sld hx hb hX hbl hbA (law_S hIc) (vp_in_nI (by omega) (by omega)) dL_law_476 ?_
  refine W.eq (g2 := F0 m 477 ls [.int (xs (5 * j + 1)), .ref x]) (by rw [nI_clamp (by omega)]) ?_
  refine lv_aload_n hx hb dL_law_477 rfl (lv_at hl 1 rfl) ?_
  refine lv_iload_n hx hb dL_law_478 rfl (lv_at hl 0 rfl) ?_
  refine lv_iconst (v := 2) hx hb dL_law_479 (by decide) ?_
  refine lv_iadd hx hb dL_law_480 ?_
  refine W.eq (g2 := F0 m 481 ls [.int (nI (5 * j + 2)), .ref b, .int (xs (5 * j + 1)), .ref x]) (by rw [show nI (5 * j) + 2 = nI (5 * j + 2) from nI_add _ 2]) ?_
  refine va_sld hx hb hX hbl hbA (law_S hIc) (vp_in_nI (by omega) (by omega)) dL_law_481 ?_
  refine W.eq (g2 := F0 m 482 ls [.int (xs (5 * j + 2)), .int (xs (5 * j + 1)), .ref x]) (by rw [nI_clamp (by omega)]) ?_
  refine lv_aload_n hx hb dL_law_482 rfl (lv_at hl 1 rfl) ?_
  refine lv_iload_n hx hb dL_law_483 rfl (lv_at hl 0 rfl) ?_
  refine lv_iconst (v := 3) hx hb dL_law_484 (by decide) ?_
  refine lv_iadd hx hb dL_law_485 ?_
  refine W.eq (g2 := F0 m 486 ls [.int (nI (5 * j + 3)), .ref b, .int (xs (5 * j + 2)), .int (xs (5 * j + 1)), .ref x]) (by rw [show nI (5 * j) + 3 = nI (5 * j + 3) from nI_add _ 3]) ?_
  refine va_sld hx hb hX hbl hbA (law_S hIc) (vp_in_nI (by omega) (by omega)) dL_law_486 ?_
  refine W.eq (g2 := F0 m 487 ls [.int (xs (5 * j + 3)), .int (xs (5 * j + 2)), .int (xs (5 * j + 1)), .ref x]) (by rw [nI_clamp (by omega)]) ?_
  refine g_callV2 (own := RL) (index := 53) (n := 3) hx hb hml hown hts (c_X10_take l E _ _ _ aa _ nn hS (by omega) (xs (5 * j + 1)) (xs (5 * j + 2)) (xs (5 * j + 3))) hS.yc' rfl rfl m_ml_L_53 m_im_X10_take m_se_X10_X10_take_X10_take m_in_X10 m_co_X10_take (by decide +kernel) ⟨Nat.le_of_ble_eq_true rfl, Nat.le_of_ble_eq_true rfl⟩ ⟨hce, hsl⟩ rfl hl.1 rfl (Nat.le_of_ble_eq_true rfl) dL_law_487 hK hIc hIm hd (fun r Gc H locs hp hIc hIm hd => ?_)
  obtain ⟨v, rfl, ev, aa1, n1, hn1, hS1⟩ := hp
  subst ev
  refine W.eq (g2 := F0 m 490 ls [.int ((sp_take A (xs (5 * j + 1)) (xs (5 * j + 2)) (xs (5 * j + 3))).1)]) rfl ?_
  refine lv_pop hx hb dL_law_490 rfl ?_
  refine lv_aload_n hx hb dL_law_491 rfl (lv_at hl 3 rfl) ?_
  refine lv_aload_n hx hb dL_law_492 rfl (lv_at hl 1 rfl) ?_
  refine lv_iload_n hx hb dL_law_493 rfl (lv_at hl 0 rfl) ?_
  refine lv_iconst (v := 1) hx hb dL_law_494 (by decide) ?_
  refine lv_iadd hx hb dL_law_495 ?_
  refine W.eq (g2 := F0 m 496 ls [.int (nI (5 * j + 1)), .ref b, .ref mo]) (by rw [show nI (5 * j) + 1 = nI (5 * j + 1) from nI_add _ 1]) ?_
  refine va_sld hx hb hX hbl hbA (law_S hIc) (vp_in_nI (by omega) (by omega)) dL_law_496 ?_
  refine W.eq (g2 := F0 m 497 ls [.int (xs (5 * j + 1)), .ref mo]) (by rw [nI_clamp (by omega)]) ?_
  refine lv_aload_n hx hb dL_law_497 rfl (lv_at hl 1 rfl) ?_
  refine lv_iload_n hx hb dL_law_498 rfl (lv_at hl 0 rfl) ?_
  refine lv_iconst (v := 2) hx hb dL_law_499 (by decide) ?_
  refine lv_iadd hx hb dL_law_500 ?_
  refine W.eq (g2 := F0 m 501 ls [.int (nI (5 * j + 2)), .ref b, .int (xs (5 * j + 1)), .ref mo]) (by rw [show nI (5 * j) + 2 = nI (5 * j + 2) from nI_add _ 2]) ?_
  refine va_sld hx hb hX hbl hbA (law_S hIc) (vp_in_nI (by omega) (by omega)) dL_law_501 ?_
  refine W.eq (g2 := F0 m 502 ls [.int (xs (5 * j + 2)), .int (xs (5 * j + 1)), .ref mo]) (by rw [nI_clamp (by omega)]) ?_
  refine lv_aload_n hx hb dL_law_502 rfl (lv_at hl 1 rfl) ?_
  refine lv_iload_n hx hb dL_law_503 rfl (lv_at hl 0 rfl) ?_
  refine lv_iconst (v := 3) hx hb dL_law_504 (by decide) ?_
  refine lv_iadd hx hb dL_law_505 ?_
  refine W.eq (g2 := F0 m 506 ls [.int (nI (5 * j + 3)), .ref b, .int (xs (5 * j + 2)), .int (xs (5 * j + 1)), .ref mo]) (by rw [show nI (5 * j) + 3 = nI (5 * j + 3) from nI_add _ 3]) ?_
  refine va_sld hx hb hX hbl hbA (law_S hIc) (vp_in_nI (by omega) (by omega)) dL_law_506 ?_
  refine W.eq (g2 := F0 m 507 ls [.int (xs (5 * j + 3)), .int (xs (5 * j + 2)), .int (xs (5 * j + 1)), .ref mo]) (by rw [nI_clamp (by omega)]) ?_
  refine g_callV2 (own := RL) (index := 56) (n := 3) hx hb hml hown hts (c_X11_take l E _ _ _ ma _ hM nn hw (xs (5 * j + 1)) (xs (5 * j + 2)) (xs (5 * j + 3))) hM.1 rfl rfl m_ml_L_56 m_im_X11_take m_se_X11_X11_take_X11_take m_in_X11 m_co_X11_take (by decide +kernel) ⟨Nat.le_of_ble_eq_true rfl, Nat.le_of_ble_eq_true rfl⟩ ⟨show cells + 2 + 0 ≤ 600000 by omega, show slots + 160 + 0 ≤ 7302250 by omega⟩ rfl hl.1 rfl (Nat.le_of_ble_eq_true rfl) dL_law_507 hK hIm hIc (fun q => (hd q).symm) (fun r Gm H locs hp hIm hIc hd => ?_)
  obtain ⟨v, rfl, ev, hM⟩ := hp
  subst ev
  refine W.eq (g2 := F0 m 510 ls [.int ((sp_take A (xs (5 * j + 1)) (xs (5 * j + 2)) (xs (5 * j + 3))).1)]) rfl ?_
  refine lv_pop hx hb dL_law_510 rfl ?_
  refine lv_goto (tgt := 881) hx hb dL_law_511 (by decide) ?_
  exact kk _ n1 _ _ hn1 ⟨Gc, Gm, aa1, ma, hS1, hM, hIc, hIm, fun q => (hd q).symm⟩
set_option maxHeartbeats 4000000 in
set_option maxRecDepth 100000 in
theorem law_case_10 {p : Program} {e : Env} {s : State} {m : MethodId} {below : List Frame} {meth : Method} {c : Code} (l : Launch) {b L : Nat} {xs : Nat → Int32} {E : gE} (hx : p.tables.exec = Jvm.exec) (hb : c.code = code) (hml : c.maxLocals = 4) (hown : s.vm.findClass RL = some m.cls) (hts : ∀ w ∈ wsL_law, w.before #[Value.ref b] s = true) (hX : va_X b L xs s s.heap) (hbl : b < s.heap.size) (hK : gK E s) {x mo j nn cells slots : Nat} {A : gA} {H : Heap} {locs : List Loc} {ls : Array Slot} {Q : State → Prop} (hJ : 5 * j + 5 ≤ L) (hL : L ≤ 2560) (hnj : nn ≤ j) (hz : j = 0 → A = zA) (hIx : LI E s x mo A nn H locs) (hl : lv_has ls 4 [(3, .int (nI (5 * j))), (0, .ref b), (1, .ref x), (2, .ref mo)]) (hce : cells + 2 ≤ 600000) (hsl : slots + 160 ≤ 7302250)
    (kk : ∀ (A1 : gA) (n1 : Nat) (H1 : Heap) (locs1 : List Loc), n1 ≤ nn + 1 → LI E s x mo A1 n1 H1 locs1 → W p l e room_1 s m #[Value.ref b] below meth c H1 locs1 (cells + 2) (slots + 160) Q (F0 m 881 ls [])) : W p l e room_1 s m #[Value.ref b] below meth c H locs cells slots Q (F0 m 514 ls []) := by
  obtain ⟨Gc, Gm, aa, ma, hS, hM, hIc, hIm, hd⟩ := hIx
  have hbA : ¬ (fun q : Nat => s.heap.size ≤ q) b := Nat.not_le.mpr hbl
  have hw : wfb A nn := ⟨hS.1, by omega⟩
  refine lv_aload_n hx hb dL_law_514 rfl (lv_at hl 2 rfl) ?_
  refine lv_aload_n hx hb dL_law_515 rfl (lv_at hl 1 rfl) ?_
  refine lv_iload_n hx hb dL_law_516 rfl (lv_at hl 0 rfl) ?_
  refine lv_iconst (v := 1) hx hb dL_law_517 (by decide) ?_
  refine lv_iadd hx hb dL_law_518 ?_
  refine W.eq (g2 := F0 m 519 ls [.int (nI (5 * j + 1)), .ref b, .ref x]) (by rw [show nI (5 * j) + 1 = nI (5 * j + 1) from nI_add _ 1]) ?_
  refine va_sld hx hb hX hbl hbA (law_S hIc) (vp_in_nI (by omega) (by omega)) dL_law_519 ?_
  refine W.eq (g2 := F0 m 520 ls [.int (xs (5 * j + 1)), .ref x]) (by rw [nI_clamp (by omega)]) ?_
  refine lv_aload_n hx hb dL_law_520 rfl (lv_at hl 1 rfl) ?_
  refine lv_iload_n hx hb dL_law_521 rfl (lv_at hl 0 rfl) ?_
  refine lv_iconst (v := 2) hx hb dL_law_522 (by decide) ?_
  refine lv_iadd hx hb dL_law_523 ?_
  refine W.eq (g2 := F0 m 524 ls [.int (nI (5 * j + 2)), .ref b, .int (xs (5 * j + 1)), .ref x]) (by rw [show nI (5 * j) + 2 = nI (5 * j + 2) from nI_add _ 2]) ?_
  refine va_sld hx hb hX hbl hbA (law_S hIc) (vp_in_nI (by omega) (by omega)) dL_law_524 ?_
  refine W.eq (g2 := F0 m 525 ls [.int (xs (5 * j + 2)), .int (xs (5 * j + 1)), .ref x]) (by rw [nI_clamp (by omega)]) ?_
  refine lv_aload_n hx hb dL_law_525 rfl (lv_at hl 1 rfl) ?_
  refine lv_iload_n hx hb dL_law_526 rfl (lv_at hl 0 rfl) ?_
  refine lv_iconst (v := 3) hx hb dL_law_527 (by decide) ?_
  refine lv_iadd hx hb dL_law_528 ?_
  refine W.eq (g2 := F0 m 529 ls [.int (nI (5 * j + 3)), .ref b, .int (xs (5 * j + 2)), .int (xs (5 * j + 1)), .ref x]) (by rw [show nI (5 * j) + 3 = nI (5 * j + 3) from nI_add _ 3]) ?_
  refine va_sld hx hb hX hbl hbA (law_S hIc) (vp_in_nI (by omega) (by omega)) dL_law_529 ?_
  refine W.eq (g2 := F0 m 530 ls [.int (xs (5 * j + 3)), .int (xs (5 * j + 2)), .int (xs (5 * j + 1)), .ref x]) (by rw [nI_clamp (by omega)]) ?_
  refine g_callV2 (own := RL) (index := 57) (n := 3) hx hb hml hown hts (c_X10_honey l E _ _ _ aa _ nn hS (by omega) (xs (5 * j + 1)) (xs (5 * j + 2)) (xs (5 * j + 3))) hS.yc' rfl rfl m_ml_L_57 m_im_X10_honey m_se_X10_X10_honey_X10_honey m_in_X10 m_co_X10_honey (by decide +kernel) ⟨Nat.le_of_ble_eq_true rfl, Nat.le_of_ble_eq_true rfl⟩ ⟨hce, hsl⟩ rfl hl.1 rfl (Nat.le_of_ble_eq_true rfl) dL_law_530 hK hIc hIm hd (fun r Gc H locs hp hIc hIm hd => ?_)
  obtain ⟨v, rfl, ev, aa1, n1, hn1, hS1⟩ := hp
  subst ev
  refine W.eq (g2 := F0 m 533 ls [.long ((sp_honey A (xs (5 * j + 1)) (xs (5 * j + 2)) (xs (5 * j + 3))).1)]) rfl ?_
  refine lv_pop2_2 hx hb dL_law_533 rfl ?_
  refine lv_aload_n hx hb dL_law_534 rfl (lv_at hl 3 rfl) ?_
  refine lv_aload_n hx hb dL_law_535 rfl (lv_at hl 1 rfl) ?_
  refine lv_iload_n hx hb dL_law_536 rfl (lv_at hl 0 rfl) ?_
  refine lv_iconst (v := 1) hx hb dL_law_537 (by decide) ?_
  refine lv_iadd hx hb dL_law_538 ?_
  refine W.eq (g2 := F0 m 539 ls [.int (nI (5 * j + 1)), .ref b, .ref mo]) (by rw [show nI (5 * j) + 1 = nI (5 * j + 1) from nI_add _ 1]) ?_
  refine va_sld hx hb hX hbl hbA (law_S hIc) (vp_in_nI (by omega) (by omega)) dL_law_539 ?_
  refine W.eq (g2 := F0 m 540 ls [.int (xs (5 * j + 1)), .ref mo]) (by rw [nI_clamp (by omega)]) ?_
  refine lv_aload_n hx hb dL_law_540 rfl (lv_at hl 1 rfl) ?_
  refine lv_iload_n hx hb dL_law_541 rfl (lv_at hl 0 rfl) ?_
  refine lv_iconst (v := 2) hx hb dL_law_542 (by decide) ?_
  refine lv_iadd hx hb dL_law_543 ?_
  refine W.eq (g2 := F0 m 544 ls [.int (nI (5 * j + 2)), .ref b, .int (xs (5 * j + 1)), .ref mo]) (by rw [show nI (5 * j) + 2 = nI (5 * j + 2) from nI_add _ 2]) ?_
  refine va_sld hx hb hX hbl hbA (law_S hIc) (vp_in_nI (by omega) (by omega)) dL_law_544 ?_
  refine W.eq (g2 := F0 m 545 ls [.int (xs (5 * j + 2)), .int (xs (5 * j + 1)), .ref mo]) (by rw [nI_clamp (by omega)]) ?_
  refine lv_aload_n hx hb dL_law_545 rfl (lv_at hl 1 rfl) ?_
  refine lv_iload_n hx hb dL_law_546 rfl (lv_at hl 0 rfl) ?_
  refine lv_iconst (v := 3) hx hb dL_law_547 (by decide) ?_
  refine lv_iadd hx hb dL_law_548 ?_
  refine W.eq (g2 := F0 m 549 ls [.int (nI (5 * j + 3)), .ref b, .int (xs (5 * j + 2)), .int (xs (5 * j + 1)), .ref mo]) (by rw [show nI (5 * j) + 3 = nI (5 * j + 3) from nI_add _ 3]) ?_
  refine va_sld hx hb hX hbl hbA (law_S hIc) (vp_in_nI (by omega) (by omega)) dL_law_549 ?_
  refine W.eq (g2 := F0 m 550 ls [.int (xs (5 * j + 3)), .int (xs (5 * j + 2)), .int (xs (5 * j + 1)), .ref mo]) (by rw [nI_clamp (by omega)]) ?_
  refine g_callV2 (own := RL) (index := 61) (n := 3) hx hb hml hown hts (c_X11_honey l E _ _ _ ma _ hM nn hw (xs (5 * j + 1)) (xs (5 * j + 2)) (xs (5 * j + 3))) hM.1 rfl rfl m_ml_L_61 m_im_X11_honey m_se_X11_X11_honey_X11_honey m_in_X11 m_co_X11_honey (by decide +kernel) ⟨Nat.le_of_ble_eq_true rfl, Nat.le_of_ble_eq_true rfl⟩ ⟨show cells + 2 + 0 ≤ 600000 by omega, show slots + 160 + 0 ≤ 7302250 by omega⟩ rfl hl.1 rfl (Nat.le_of_ble_eq_true rfl) dL_law_550 hK hIm hIc (fun q => (hd q).symm) (fun r Gm H locs hp hIm hIc hd => ?_)
  obtain ⟨v, rfl, ev, hM⟩ := hp
  subst ev
  refine W.eq (g2 := F0 m 553 ls [.long ((sp_honey A (xs (5 * j + 1)) (xs (5 * j + 2)) (xs (5 * j + 3))).1)]) rfl ?_
  refine lv_pop2_2 hx hb dL_law_553 rfl ?_
  refine lv_goto (tgt := 881) hx hb dL_law_554 (by decide) ?_
  exact kk _ n1 _ _ hn1 ⟨Gc, Gm, aa1, ma, hS1, hM, hIc, hIm, fun q => (hd q).symm⟩
set_option maxHeartbeats 4000000 in
set_option maxRecDepth 100000 in
theorem law_case_11 {p : Program} {e : Env} {s : State} {m : MethodId} {below : List Frame} {meth : Method} {c : Code} (l : Launch) {b L : Nat} {xs : Nat → Int32} {E : gE} (hx : p.tables.exec = Jvm.exec) (hb : c.code = code) (hml : c.maxLocals = 4) (hown : s.vm.findClass RL = some m.cls) (hts : ∀ w ∈ wsL_law, w.before #[Value.ref b] s = true) (hX : va_X b L xs s s.heap) (hbl : b < s.heap.size) (hK : gK E s) {x mo j nn cells slots : Nat} {A : gA} {H : Heap} {locs : List Loc} {ls : Array Slot} {Q : State → Prop} (hJ : 5 * j + 5 ≤ L) (hL : L ≤ 2560) (hnj : nn ≤ j) (hz : j = 0 → A = zA) (hIx : LI E s x mo A nn H locs) (hl : lv_has ls 4 [(3, .int (nI (5 * j))), (0, .ref b), (1, .ref x), (2, .ref mo)]) (hce : cells + 2 ≤ 600000) (hsl : slots + 160 ≤ 7302250)
    (kk : ∀ (A1 : gA) (n1 : Nat) (H1 : Heap) (locs1 : List Loc), n1 ≤ nn + 1 → LI E s x mo A1 n1 H1 locs1 → W p l e room_1 s m #[Value.ref b] below meth c H1 locs1 (cells + 2) (slots + 160) Q (F0 m 881 ls [])) : W p l e room_1 s m #[Value.ref b] below meth c H locs cells slots Q (F0 m 557 ls []) := by
  obtain ⟨Gc, Gm, aa, ma, hS, hM, hIc, hIm, hd⟩ := hIx
  have hbA : ¬ (fun q : Nat => s.heap.size ≤ q) b := Nat.not_le.mpr hbl
  have hw : wfb A nn := ⟨hS.1, by omega⟩
  refine lv_aload_n hx hb dL_law_557 rfl (lv_at hl 2 rfl) ?_
  refine lv_aload_n hx hb dL_law_558 rfl (lv_at hl 1 rfl) ?_
  refine lv_iload_n hx hb dL_law_559 rfl (lv_at hl 0 rfl) ?_
  refine lv_iconst (v := 1) hx hb dL_law_560 (by decide) ?_
  refine lv_iadd hx hb dL_law_561 ?_
  refine W.eq (g2 := F0 m 562 ls [.int (nI (5 * j + 1)), .ref b, .ref x]) (by rw [show nI (5 * j) + 1 = nI (5 * j + 1) from nI_add _ 1]) ?_
  refine va_sld hx hb hX hbl hbA (law_S hIc) (vp_in_nI (by omega) (by omega)) dL_law_562 ?_
  refine W.eq (g2 := F0 m 563 ls [.int (xs (5 * j + 1)), .ref x]) (by rw [nI_clamp (by omega)]) ?_
  refine lv_aload_n hx hb dL_law_563 rfl (lv_at hl 1 rfl) ?_
  refine lv_iload_n hx hb dL_law_564 rfl (lv_at hl 0 rfl) ?_
  refine lv_iconst (v := 2) hx hb dL_law_565 (by decide) ?_
  refine lv_iadd hx hb dL_law_566 ?_
  refine W.eq (g2 := F0 m 567 ls [.int (nI (5 * j + 2)), .ref b, .int (xs (5 * j + 1)), .ref x]) (by rw [show nI (5 * j) + 2 = nI (5 * j + 2) from nI_add _ 2]) ?_
  refine va_sld hx hb hX hbl hbA (law_S hIc) (vp_in_nI (by omega) (by omega)) dL_law_567 ?_
  refine W.eq (g2 := F0 m 568 ls [.int (xs (5 * j + 2)), .int (xs (5 * j + 1)), .ref x]) (by rw [nI_clamp (by omega)]) ?_
  refine lv_aload_n hx hb dL_law_568 rfl (lv_at hl 1 rfl) ?_
  refine lv_iload_n hx hb dL_law_569 rfl (lv_at hl 0 rfl) ?_
  refine lv_iconst (v := 3) hx hb dL_law_570 (by decide) ?_
  refine lv_iadd hx hb dL_law_571 ?_
  refine W.eq (g2 := F0 m 572 ls [.int (nI (5 * j + 3)), .ref b, .int (xs (5 * j + 2)), .int (xs (5 * j + 1)), .ref x]) (by rw [show nI (5 * j) + 3 = nI (5 * j + 3) from nI_add _ 3]) ?_
  refine va_sld hx hb hX hbl hbA (law_S hIc) (vp_in_nI (by omega) (by omega)) dL_law_572 ?_
  refine W.eq (g2 := F0 m 573 ls [.int (xs (5 * j + 3)), .int (xs (5 * j + 2)), .int (xs (5 * j + 1)), .ref x]) (by rw [nI_clamp (by omega)]) ?_
  refine g_callV2 (own := RL) (index := 62) (n := 3) hx hb hml hown hts (c_X10_lay l E _ _ _ aa _ nn hS (by omega) (xs (5 * j + 1)) (xs (5 * j + 2)) (xs (5 * j + 3))) hS.yc' rfl rfl m_ml_L_62 m_im_X10_lay m_se_X10_X10_lay_X10_lay m_in_X10 m_co_X10_lay (by decide +kernel) ⟨Nat.le_of_ble_eq_true rfl, Nat.le_of_ble_eq_true rfl⟩ ⟨hce, hsl⟩ rfl hl.1 rfl (Nat.le_of_ble_eq_true rfl) dL_law_573 hK hIc hIm hd (fun r Gc H locs hp hIc hIm hd => ?_)
  obtain ⟨v, rfl, ev, aa1, n1, hn1, hS1⟩ := hp
  subst ev
  refine W.eq (g2 := F0 m 576 ls [.long ((sp_lay A (xs (5 * j + 1)) (xs (5 * j + 2)) (xs (5 * j + 3))).1)]) rfl ?_
  refine lv_pop2_2 hx hb dL_law_576 rfl ?_
  refine lv_aload_n hx hb dL_law_577 rfl (lv_at hl 3 rfl) ?_
  refine lv_aload_n hx hb dL_law_578 rfl (lv_at hl 1 rfl) ?_
  refine lv_iload_n hx hb dL_law_579 rfl (lv_at hl 0 rfl) ?_
  refine lv_iconst (v := 1) hx hb dL_law_580 (by decide) ?_
  refine lv_iadd hx hb dL_law_581 ?_
  refine W.eq (g2 := F0 m 582 ls [.int (nI (5 * j + 1)), .ref b, .ref mo]) (by rw [show nI (5 * j) + 1 = nI (5 * j + 1) from nI_add _ 1]) ?_
  refine va_sld hx hb hX hbl hbA (law_S hIc) (vp_in_nI (by omega) (by omega)) dL_law_582 ?_
  refine W.eq (g2 := F0 m 583 ls [.int (xs (5 * j + 1)), .ref mo]) (by rw [nI_clamp (by omega)]) ?_
  refine lv_aload_n hx hb dL_law_583 rfl (lv_at hl 1 rfl) ?_
  refine lv_iload_n hx hb dL_law_584 rfl (lv_at hl 0 rfl) ?_
  refine lv_iconst (v := 2) hx hb dL_law_585 (by decide) ?_
  refine lv_iadd hx hb dL_law_586 ?_
  refine W.eq (g2 := F0 m 587 ls [.int (nI (5 * j + 2)), .ref b, .int (xs (5 * j + 1)), .ref mo]) (by rw [show nI (5 * j) + 2 = nI (5 * j + 2) from nI_add _ 2]) ?_
  refine va_sld hx hb hX hbl hbA (law_S hIc) (vp_in_nI (by omega) (by omega)) dL_law_587 ?_
  refine W.eq (g2 := F0 m 588 ls [.int (xs (5 * j + 2)), .int (xs (5 * j + 1)), .ref mo]) (by rw [nI_clamp (by omega)]) ?_
  refine lv_aload_n hx hb dL_law_588 rfl (lv_at hl 1 rfl) ?_
  refine lv_iload_n hx hb dL_law_589 rfl (lv_at hl 0 rfl) ?_
  refine lv_iconst (v := 3) hx hb dL_law_590 (by decide) ?_
  refine lv_iadd hx hb dL_law_591 ?_
  refine W.eq (g2 := F0 m 592 ls [.int (nI (5 * j + 3)), .ref b, .int (xs (5 * j + 2)), .int (xs (5 * j + 1)), .ref mo]) (by rw [show nI (5 * j) + 3 = nI (5 * j + 3) from nI_add _ 3]) ?_
  refine va_sld hx hb hX hbl hbA (law_S hIc) (vp_in_nI (by omega) (by omega)) dL_law_592 ?_
  refine W.eq (g2 := F0 m 593 ls [.int (xs (5 * j + 3)), .int (xs (5 * j + 2)), .int (xs (5 * j + 1)), .ref mo]) (by rw [nI_clamp (by omega)]) ?_
  refine g_callV2 (own := RL) (index := 65) (n := 3) hx hb hml hown hts (c_X11_lay l E _ _ _ ma _ hM nn hw (xs (5 * j + 1)) (xs (5 * j + 2)) (xs (5 * j + 3))) hM.1 rfl rfl m_ml_L_65 m_im_X11_lay m_se_X11_X11_lay_X11_lay m_in_X11 m_co_X11_lay (by decide +kernel) ⟨Nat.le_of_ble_eq_true rfl, Nat.le_of_ble_eq_true rfl⟩ ⟨show cells + 2 + 0 ≤ 600000 by omega, show slots + 160 + 0 ≤ 7302250 by omega⟩ rfl hl.1 rfl (Nat.le_of_ble_eq_true rfl) dL_law_593 hK hIm hIc (fun q => (hd q).symm) (fun r Gm H locs hp hIm hIc hd => ?_)
  obtain ⟨v, rfl, ev, hM⟩ := hp
  subst ev
  refine W.eq (g2 := F0 m 596 ls [.long ((sp_lay A (xs (5 * j + 1)) (xs (5 * j + 2)) (xs (5 * j + 3))).1)]) rfl ?_
  refine lv_pop2_2 hx hb dL_law_596 rfl ?_
  refine lv_goto (tgt := 881) hx hb dL_law_597 (by decide) ?_
  exact kk _ n1 _ _ hn1 ⟨Gc, Gm, aa1, ma, hS1, hM, hIc, hIm, fun q => (hd q).symm⟩
set_option maxHeartbeats 4000000 in
set_option maxRecDepth 100000 in
theorem law_case_12 {p : Program} {e : Env} {s : State} {m : MethodId} {below : List Frame} {meth : Method} {c : Code} (l : Launch) {b L : Nat} {xs : Nat → Int32} {E : gE} (hx : p.tables.exec = Jvm.exec) (hb : c.code = code) (hml : c.maxLocals = 4) (hown : s.vm.findClass RL = some m.cls) (hts : ∀ w ∈ wsL_law, w.before #[Value.ref b] s = true) (hX : va_X b L xs s s.heap) (hbl : b < s.heap.size) (hK : gK E s) {x mo j nn cells slots : Nat} {A : gA} {H : Heap} {locs : List Loc} {ls : Array Slot} {Q : State → Prop} (hJ : 5 * j + 5 ≤ L) (hL : L ≤ 2560) (hnj : nn ≤ j) (hz : j = 0 → A = zA) (hIx : LI E s x mo A nn H locs) (hl : lv_has ls 4 [(3, .int (nI (5 * j))), (0, .ref b), (1, .ref x), (2, .ref mo)]) (hce : cells + 2 ≤ 600000) (hsl : slots + 160 ≤ 7302250)
    (kk : ∀ (A1 : gA) (n1 : Nat) (H1 : Heap) (locs1 : List Loc), n1 ≤ nn + 1 → LI E s x mo A1 n1 H1 locs1 → W p l e room_1 s m #[Value.ref b] below meth c H1 locs1 (cells + 2) (slots + 160) Q (F0 m 881 ls [])) : W p l e room_1 s m #[Value.ref b] below meth c H locs cells slots Q (F0 m 600 ls []) := by
  obtain ⟨Gc, Gm, aa, ma, hS, hM, hIc, hIm, hd⟩ := hIx
  have hbA : ¬ (fun q : Nat => s.heap.size ≤ q) b := Nat.not_le.mpr hbl
  have hw : wfb A nn := ⟨hS.1, by omega⟩
  refine lv_aload_n hx hb dL_law_600 rfl (lv_at hl 2 rfl) ?_
  refine lv_aload_n hx hb dL_law_601 rfl (lv_at hl 1 rfl) ?_
  refine lv_iload_n hx hb dL_law_602 rfl (lv_at hl 0 rfl) ?_
  refine lv_iconst (v := 1) hx hb dL_law_603 (by decide) ?_
  refine lv_iadd hx hb dL_law_604 ?_
  refine W.eq (g2 := F0 m 605 ls [.int (nI (5 * j + 1)), .ref b, .ref x]) (by rw [show nI (5 * j) + 1 = nI (5 * j + 1) from nI_add _ 1]) ?_
  refine va_sld hx hb hX hbl hbA (law_S hIc) (vp_in_nI (by omega) (by omega)) dL_law_605 ?_
  refine W.eq (g2 := F0 m 606 ls [.int (xs (5 * j + 1)), .ref x]) (by rw [nI_clamp (by omega)]) ?_
  refine lv_aload_n hx hb dL_law_606 rfl (lv_at hl 1 rfl) ?_
  refine lv_iload_n hx hb dL_law_607 rfl (lv_at hl 0 rfl) ?_
  refine lv_iconst (v := 2) hx hb dL_law_608 (by decide) ?_
  refine lv_iadd hx hb dL_law_609 ?_
  refine W.eq (g2 := F0 m 610 ls [.int (nI (5 * j + 2)), .ref b, .int (xs (5 * j + 1)), .ref x]) (by rw [show nI (5 * j) + 2 = nI (5 * j + 2) from nI_add _ 2]) ?_
  refine va_sld hx hb hX hbl hbA (law_S hIc) (vp_in_nI (by omega) (by omega)) dL_law_610 ?_
  refine W.eq (g2 := F0 m 611 ls [.int (xs (5 * j + 2)), .int (xs (5 * j + 1)), .ref x]) (by rw [nI_clamp (by omega)]) ?_
  refine lv_aload_n hx hb dL_law_611 rfl (lv_at hl 1 rfl) ?_
  refine lv_iload_n hx hb dL_law_612 rfl (lv_at hl 0 rfl) ?_
  refine lv_iconst (v := 3) hx hb dL_law_613 (by decide) ?_
  refine lv_iadd hx hb dL_law_614 ?_
  refine W.eq (g2 := F0 m 615 ls [.int (nI (5 * j + 3)), .ref b, .int (xs (5 * j + 2)), .int (xs (5 * j + 1)), .ref x]) (by rw [show nI (5 * j) + 3 = nI (5 * j + 3) from nI_add _ 3]) ?_
  refine va_sld hx hb hX hbl hbA (law_S hIc) (vp_in_nI (by omega) (by omega)) dL_law_615 ?_
  refine W.eq (g2 := F0 m 616 ls [.int (xs (5 * j + 3)), .int (xs (5 * j + 2)), .int (xs (5 * j + 1)), .ref x]) (by rw [nI_clamp (by omega)]) ?_
  refine lv_if_eq (tgt := 623) hx hb dL_law_616 (by decide) (fun c_1 => ?_) (fun c_1 => ?_)
  · have q_2 := eqb_t c_1
    refine lv_iconst (v := 0) hx hb dL_law_623 (by decide) ?_
    refine g_callV2 (own := RL) (index := 66) (n := 3) hx hb hml hown hts (c_X10_tend l E _ _ _ aa _ nn hS (by omega) (xs (5 * j + 1)) (xs (5 * j + 2)) 0) hS.yc' rfl rfl m_ml_L_66 m_im_X10_tend m_se_X10_X10_tend_X10_tend m_in_X10 m_co_X10_tend (by decide +kernel) ⟨Nat.le_of_ble_eq_true rfl, Nat.le_of_ble_eq_true rfl⟩ ⟨hce, hsl⟩ rfl hl.1 rfl (Nat.le_of_ble_eq_true rfl) dL_law_624 hK hIc hIm hd (fun r Gc H locs hp hIc hIm hd => ?_)
    obtain ⟨v, rfl, ev, aa1, n1, hn1, hS1⟩ := hp
    subst ev
    refine W.eq (g2 := F0 m 627 ls [.long ((sp_tend A (xs (5 * j + 1)) (xs (5 * j + 2)) 0).1)]) rfl ?_
    refine lv_pop2_2 hx hb dL_law_627 rfl ?_
    refine lv_aload_n hx hb dL_law_628 rfl (lv_at hl 3 rfl) ?_
    refine lv_aload_n hx hb dL_law_629 rfl (lv_at hl 1 rfl) ?_
    refine lv_iload_n hx hb dL_law_630 rfl (lv_at hl 0 rfl) ?_
    refine lv_iconst (v := 1) hx hb dL_law_631 (by decide) ?_
    refine lv_iadd hx hb dL_law_632 ?_
    refine W.eq (g2 := F0 m 633 ls [.int (nI (5 * j + 1)), .ref b, .ref mo]) (by rw [show nI (5 * j) + 1 = nI (5 * j + 1) from nI_add _ 1]) ?_
    refine va_sld hx hb hX hbl hbA (law_S hIc) (vp_in_nI (by omega) (by omega)) dL_law_633 ?_
    refine W.eq (g2 := F0 m 634 ls [.int (xs (5 * j + 1)), .ref mo]) (by rw [nI_clamp (by omega)]) ?_
    refine lv_aload_n hx hb dL_law_634 rfl (lv_at hl 1 rfl) ?_
    refine lv_iload_n hx hb dL_law_635 rfl (lv_at hl 0 rfl) ?_
    refine lv_iconst (v := 2) hx hb dL_law_636 (by decide) ?_
    refine lv_iadd hx hb dL_law_637 ?_
    refine W.eq (g2 := F0 m 638 ls [.int (nI (5 * j + 2)), .ref b, .int (xs (5 * j + 1)), .ref mo]) (by rw [show nI (5 * j) + 2 = nI (5 * j + 2) from nI_add _ 2]) ?_
    refine va_sld hx hb hX hbl hbA (law_S hIc) (vp_in_nI (by omega) (by omega)) dL_law_638 ?_
    refine W.eq (g2 := F0 m 639 ls [.int (xs (5 * j + 2)), .int (xs (5 * j + 1)), .ref mo]) (by rw [nI_clamp (by omega)]) ?_
    refine lv_aload_n hx hb dL_law_639 rfl (lv_at hl 1 rfl) ?_
    refine lv_iload_n hx hb dL_law_640 rfl (lv_at hl 0 rfl) ?_
    refine lv_iconst (v := 3) hx hb dL_law_641 (by decide) ?_
    refine lv_iadd hx hb dL_law_642 ?_
    refine W.eq (g2 := F0 m 643 ls [.int (nI (5 * j + 3)), .ref b, .int (xs (5 * j + 2)), .int (xs (5 * j + 1)), .ref mo]) (by rw [show nI (5 * j) + 3 = nI (5 * j + 3) from nI_add _ 3]) ?_
    refine va_sld hx hb hX hbl hbA (law_S hIc) (vp_in_nI (by omega) (by omega)) dL_law_643 ?_
    refine W.eq (g2 := F0 m 644 ls [.int (xs (5 * j + 3)), .int (xs (5 * j + 2)), .int (xs (5 * j + 1)), .ref mo]) (by rw [nI_clamp (by omega)]) ?_
    refine lv_if_eq (tgt := 651) hx hb dL_law_644 (by decide) (fun _ => ?_) (fun c_3 => by first | exact absurd c_1 c_3 | exact absurd c_3 c_1 | (simp_all; done))
    refine lv_iconst (v := 0) hx hb dL_law_651 (by decide) ?_
    refine g_callV2 (own := RL) (index := 70) (n := 3) hx hb hml hown hts (c_X11_tend l E _ _ _ ma _ hM nn hw (xs (5 * j + 1)) (xs (5 * j + 2)) 0) hM.1 rfl rfl m_ml_L_70 m_im_X11_tend m_se_X11_X11_tend_X11_tend m_in_X11 m_co_X11_tend (by decide +kernel) ⟨Nat.le_of_ble_eq_true rfl, Nat.le_of_ble_eq_true rfl⟩ ⟨show cells + 2 + 0 ≤ 600000 by omega, show slots + 160 + 0 ≤ 7302250 by omega⟩ rfl hl.1 rfl (Nat.le_of_ble_eq_true rfl) dL_law_652 hK hIm hIc (fun q => (hd q).symm) (fun r Gm H locs hp hIm hIc hd => ?_)
    obtain ⟨v, rfl, ev, hM⟩ := hp
    subst ev
    refine W.eq (g2 := F0 m 655 ls [.long ((sp_tend A (xs (5 * j + 1)) (xs (5 * j + 2)) 0).1)]) rfl ?_
    refine lv_pop2_2 hx hb dL_law_655 rfl ?_
    refine lv_goto (tgt := 881) hx hb dL_law_656 (by decide) ?_
    exact kk _ n1 _ _ hn1 ⟨Gc, Gm, aa1, ma, hS1, hM, hIc, hIm, fun q => (hd q).symm⟩
  · have q_4 := eqb_f c_1
    refine lv_iconst (v := 1) hx hb dL_law_619 (by decide) ?_
    refine lv_goto (tgt := 624) hx hb dL_law_620 (by decide) ?_
    refine g_callV2 (own := RL) (index := 66) (n := 3) hx hb hml hown hts (c_X10_tend l E _ _ _ aa _ nn hS (by omega) (xs (5 * j + 1)) (xs (5 * j + 2)) 1) hS.yc' rfl rfl m_ml_L_66 m_im_X10_tend m_se_X10_X10_tend_X10_tend m_in_X10 m_co_X10_tend (by decide +kernel) ⟨Nat.le_of_ble_eq_true rfl, Nat.le_of_ble_eq_true rfl⟩ ⟨hce, hsl⟩ rfl hl.1 rfl (Nat.le_of_ble_eq_true rfl) dL_law_624 hK hIc hIm hd (fun r Gc H locs hp hIc hIm hd => ?_)
    obtain ⟨v, rfl, ev, aa1, n1, hn1, hS1⟩ := hp
    subst ev
    refine W.eq (g2 := F0 m 627 ls [.long ((sp_tend A (xs (5 * j + 1)) (xs (5 * j + 2)) 1).1)]) rfl ?_
    refine lv_pop2_2 hx hb dL_law_627 rfl ?_
    refine lv_aload_n hx hb dL_law_628 rfl (lv_at hl 3 rfl) ?_
    refine lv_aload_n hx hb dL_law_629 rfl (lv_at hl 1 rfl) ?_
    refine lv_iload_n hx hb dL_law_630 rfl (lv_at hl 0 rfl) ?_
    refine lv_iconst (v := 1) hx hb dL_law_631 (by decide) ?_
    refine lv_iadd hx hb dL_law_632 ?_
    refine W.eq (g2 := F0 m 633 ls [.int (nI (5 * j + 1)), .ref b, .ref mo]) (by rw [show nI (5 * j) + 1 = nI (5 * j + 1) from nI_add _ 1]) ?_
    refine va_sld hx hb hX hbl hbA (law_S hIc) (vp_in_nI (by omega) (by omega)) dL_law_633 ?_
    refine W.eq (g2 := F0 m 634 ls [.int (xs (5 * j + 1)), .ref mo]) (by rw [nI_clamp (by omega)]) ?_
    refine lv_aload_n hx hb dL_law_634 rfl (lv_at hl 1 rfl) ?_
    refine lv_iload_n hx hb dL_law_635 rfl (lv_at hl 0 rfl) ?_
    refine lv_iconst (v := 2) hx hb dL_law_636 (by decide) ?_
    refine lv_iadd hx hb dL_law_637 ?_
    refine W.eq (g2 := F0 m 638 ls [.int (nI (5 * j + 2)), .ref b, .int (xs (5 * j + 1)), .ref mo]) (by rw [show nI (5 * j) + 2 = nI (5 * j + 2) from nI_add _ 2]) ?_
    refine va_sld hx hb hX hbl hbA (law_S hIc) (vp_in_nI (by omega) (by omega)) dL_law_638 ?_
    refine W.eq (g2 := F0 m 639 ls [.int (xs (5 * j + 2)), .int (xs (5 * j + 1)), .ref mo]) (by rw [nI_clamp (by omega)]) ?_
    refine lv_aload_n hx hb dL_law_639 rfl (lv_at hl 1 rfl) ?_
    refine lv_iload_n hx hb dL_law_640 rfl (lv_at hl 0 rfl) ?_
    refine lv_iconst (v := 3) hx hb dL_law_641 (by decide) ?_
    refine lv_iadd hx hb dL_law_642 ?_
    refine W.eq (g2 := F0 m 643 ls [.int (nI (5 * j + 3)), .ref b, .int (xs (5 * j + 2)), .int (xs (5 * j + 1)), .ref mo]) (by rw [show nI (5 * j) + 3 = nI (5 * j + 3) from nI_add _ 3]) ?_
    refine va_sld hx hb hX hbl hbA (law_S hIc) (vp_in_nI (by omega) (by omega)) dL_law_643 ?_
    refine W.eq (g2 := F0 m 644 ls [.int (xs (5 * j + 3)), .int (xs (5 * j + 2)), .int (xs (5 * j + 1)), .ref mo]) (by rw [nI_clamp (by omega)]) ?_
    refine lv_if_eq (tgt := 651) hx hb dL_law_644 (by decide) (fun c_5 => by first | exact absurd c_1 c_5 | exact absurd c_5 c_1 | (simp_all; done)) (fun _ => ?_)
    refine lv_iconst (v := 1) hx hb dL_law_647 (by decide) ?_
    refine lv_goto (tgt := 652) hx hb dL_law_648 (by decide) ?_
    refine g_callV2 (own := RL) (index := 70) (n := 3) hx hb hml hown hts (c_X11_tend l E _ _ _ ma _ hM nn hw (xs (5 * j + 1)) (xs (5 * j + 2)) 1) hM.1 rfl rfl m_ml_L_70 m_im_X11_tend m_se_X11_X11_tend_X11_tend m_in_X11 m_co_X11_tend (by decide +kernel) ⟨Nat.le_of_ble_eq_true rfl, Nat.le_of_ble_eq_true rfl⟩ ⟨show cells + 2 + 0 ≤ 600000 by omega, show slots + 160 + 0 ≤ 7302250 by omega⟩ rfl hl.1 rfl (Nat.le_of_ble_eq_true rfl) dL_law_652 hK hIm hIc (fun q => (hd q).symm) (fun r Gm H locs hp hIm hIc hd => ?_)
    obtain ⟨v, rfl, ev, hM⟩ := hp
    subst ev
    refine W.eq (g2 := F0 m 655 ls [.long ((sp_tend A (xs (5 * j + 1)) (xs (5 * j + 2)) 1).1)]) rfl ?_
    refine lv_pop2_2 hx hb dL_law_655 rfl ?_
    refine lv_goto (tgt := 881) hx hb dL_law_656 (by decide) ?_
    exact kk _ n1 _ _ hn1 ⟨Gc, Gm, aa1, ma, hS1, hM, hIc, hIm, fun q => (hd q).symm⟩
set_option maxHeartbeats 4000000 in
set_option maxRecDepth 100000 in
theorem law_case_13 {p : Program} {e : Env} {s : State} {m : MethodId} {below : List Frame} {meth : Method} {c : Code} (l : Launch) {b L : Nat} {xs : Nat → Int32} {E : gE} (hx : p.tables.exec = Jvm.exec) (hb : c.code = code) (hml : c.maxLocals = 4) (hown : s.vm.findClass RL = some m.cls) (hts : ∀ w ∈ wsL_law, w.before #[Value.ref b] s = true) (hX : va_X b L xs s s.heap) (hbl : b < s.heap.size) (hK : gK E s) {x mo j nn cells slots : Nat} {A : gA} {H : Heap} {locs : List Loc} {ls : Array Slot} {Q : State → Prop} (hJ : 5 * j + 5 ≤ L) (hL : L ≤ 2560) (hnj : nn ≤ j) (hz : j = 0 → A = zA) (hIx : LI E s x mo A nn H locs) (hl : lv_has ls 4 [(3, .int (nI (5 * j))), (0, .ref b), (1, .ref x), (2, .ref mo)]) (hce : cells + 2 ≤ 600000) (hsl : slots + 160 ≤ 7302250)
    (kk : ∀ (A1 : gA) (n1 : Nat) (H1 : Heap) (locs1 : List Loc), n1 ≤ nn + 1 → LI E s x mo A1 n1 H1 locs1 → W p l e room_1 s m #[Value.ref b] below meth c H1 locs1 (cells + 2) (slots + 160) Q (F0 m 881 ls [])) : W p l e room_1 s m #[Value.ref b] below meth c H locs cells slots Q (F0 m 659 ls []) := by
  obtain ⟨Gc, Gm, aa, ma, hS, hM, hIc, hIm, hd⟩ := hIx
  have hbA : ¬ (fun q : Nat => s.heap.size ≤ q) b := Nat.not_le.mpr hbl
  have hw : wfb A nn := ⟨hS.1, by omega⟩
  refine lv_aload_n hx hb dL_law_659 rfl (lv_at hl 2 rfl) ?_
  refine lv_aload_n hx hb dL_law_660 rfl (lv_at hl 1 rfl) ?_
  refine lv_iload_n hx hb dL_law_661 rfl (lv_at hl 0 rfl) ?_
  refine lv_iconst (v := 1) hx hb dL_law_662 (by decide) ?_
  refine lv_iadd hx hb dL_law_663 ?_
  refine W.eq (g2 := F0 m 664 ls [.int (nI (5 * j + 1)), .ref b, .ref x]) (by rw [show nI (5 * j) + 1 = nI (5 * j + 1) from nI_add _ 1]) ?_
  refine va_sld hx hb hX hbl hbA (law_S hIc) (vp_in_nI (by omega) (by omega)) dL_law_664 ?_
  refine W.eq (g2 := F0 m 665 ls [.int (xs (5 * j + 1)), .ref x]) (by rw [nI_clamp (by omega)]) ?_
  refine lv_aload_n hx hb dL_law_665 rfl (lv_at hl 1 rfl) ?_
  refine lv_iload_n hx hb dL_law_666 rfl (lv_at hl 0 rfl) ?_
  refine lv_iconst (v := 2) hx hb dL_law_667 (by decide) ?_
  refine lv_iadd hx hb dL_law_668 ?_
  refine W.eq (g2 := F0 m 669 ls [.int (nI (5 * j + 2)), .ref b, .int (xs (5 * j + 1)), .ref x]) (by rw [show nI (5 * j) + 2 = nI (5 * j + 2) from nI_add _ 2]) ?_
  refine va_sld hx hb hX hbl hbA (law_S hIc) (vp_in_nI (by omega) (by omega)) dL_law_669 ?_
  refine W.eq (g2 := F0 m 670 ls [.int (xs (5 * j + 2)), .int (xs (5 * j + 1)), .ref x]) (by rw [nI_clamp (by omega)]) ?_
  refine lv_aload_n hx hb dL_law_670 rfl (lv_at hl 1 rfl) ?_
  refine lv_iload_n hx hb dL_law_671 rfl (lv_at hl 0 rfl) ?_
  refine lv_iconst (v := 3) hx hb dL_law_672 (by decide) ?_
  refine lv_iadd hx hb dL_law_673 ?_
  refine W.eq (g2 := F0 m 674 ls [.int (nI (5 * j + 3)), .ref b, .int (xs (5 * j + 2)), .int (xs (5 * j + 1)), .ref x]) (by rw [show nI (5 * j) + 3 = nI (5 * j + 3) from nI_add _ 3]) ?_
  refine va_sld hx hb hX hbl hbA (law_S hIc) (vp_in_nI (by omega) (by omega)) dL_law_674 ?_
  refine W.eq (g2 := F0 m 675 ls [.int (xs (5 * j + 3)), .int (xs (5 * j + 2)), .int (xs (5 * j + 1)), .ref x]) (by rw [nI_clamp (by omega)]) ?_
  refine lv_aload_n hx hb dL_law_675 rfl (lv_at hl 1 rfl) ?_
  refine lv_iload_n hx hb dL_law_676 rfl (lv_at hl 0 rfl) ?_
  refine lv_iconst (v := 4) hx hb dL_law_677 (by decide) ?_
  refine lv_iadd hx hb dL_law_678 ?_
  refine W.eq (g2 := F0 m 679 ls [.int (nI (5 * j + 4)), .ref b, .int (xs (5 * j + 3)), .int (xs (5 * j + 2)), .int (xs (5 * j + 1)), .ref x]) (by rw [show nI (5 * j) + 4 = nI (5 * j + 4) from nI_add _ 4]) ?_
  refine va_sld hx hb hX hbl hbA (law_S hIc) (vp_in_nI (by omega) (by omega)) dL_law_679 ?_
  refine W.eq (g2 := F0 m 680 ls [.int (xs (5 * j + 4)), .int (xs (5 * j + 3)), .int (xs (5 * j + 2)), .int (xs (5 * j + 1)), .ref x]) (by rw [nI_clamp (by omega)]) ?_
  refine g_callV2 (own := RL) (index := 71) (n := 4) hx hb hml hown hts (c_X10_cell l E _ _ _ aa _ nn hS (by omega) (xs (5 * j + 1)) (xs (5 * j + 2)) (xs (5 * j + 3)) (xs (5 * j + 4))) hS.yc' rfl rfl m_ml_L_71 m_im_X10_cell m_se_X10_X10_cell_X10_cell m_in_X10 m_co_X10_cell (by decide +kernel) ⟨Nat.le_of_ble_eq_true rfl, Nat.le_of_ble_eq_true rfl⟩ ⟨hce, hsl⟩ rfl hl.1 rfl (Nat.le_of_ble_eq_true rfl) dL_law_680 hK hIc hIm hd (fun r Gc H locs hp hIc hIm hd => ?_)
  obtain ⟨v, rfl, ev, aa1, n1, hn1, hS1⟩ := hp
  subst ev
  refine W.eq (g2 := F0 m 683 ls [.long ((sp_cell A (xs (5 * j + 1)) (xs (5 * j + 2)) (xs (5 * j + 3)) (xs (5 * j + 4))).1)]) rfl ?_
  refine lv_aload_n hx hb dL_law_683 rfl (lv_at hl 3 rfl) ?_
  refine lv_aload_n hx hb dL_law_684 rfl (lv_at hl 1 rfl) ?_
  refine lv_iload_n hx hb dL_law_685 rfl (lv_at hl 0 rfl) ?_
  refine lv_iconst (v := 1) hx hb dL_law_686 (by decide) ?_
  refine lv_iadd hx hb dL_law_687 ?_
  refine W.eq (g2 := F0 m 688 ls [.int (nI (5 * j + 1)), .ref b, .ref mo, .long ((sp_cell A (xs (5 * j + 1)) (xs (5 * j + 2)) (xs (5 * j + 3)) (xs (5 * j + 4))).1)]) (by rw [show nI (5 * j) + 1 = nI (5 * j + 1) from nI_add _ 1]) ?_
  refine va_sld hx hb hX hbl hbA (law_S hIc) (vp_in_nI (by omega) (by omega)) dL_law_688 ?_
  refine W.eq (g2 := F0 m 689 ls [.int (xs (5 * j + 1)), .ref mo, .long ((sp_cell A (xs (5 * j + 1)) (xs (5 * j + 2)) (xs (5 * j + 3)) (xs (5 * j + 4))).1)]) (by rw [nI_clamp (by omega)]) ?_
  refine lv_aload_n hx hb dL_law_689 rfl (lv_at hl 1 rfl) ?_
  refine lv_iload_n hx hb dL_law_690 rfl (lv_at hl 0 rfl) ?_
  refine lv_iconst (v := 2) hx hb dL_law_691 (by decide) ?_
  refine lv_iadd hx hb dL_law_692 ?_
  refine W.eq (g2 := F0 m 693 ls [.int (nI (5 * j + 2)), .ref b, .int (xs (5 * j + 1)), .ref mo, .long ((sp_cell A (xs (5 * j + 1)) (xs (5 * j + 2)) (xs (5 * j + 3)) (xs (5 * j + 4))).1)]) (by rw [show nI (5 * j) + 2 = nI (5 * j + 2) from nI_add _ 2]) ?_
  refine va_sld hx hb hX hbl hbA (law_S hIc) (vp_in_nI (by omega) (by omega)) dL_law_693 ?_
  refine W.eq (g2 := F0 m 694 ls [.int (xs (5 * j + 2)), .int (xs (5 * j + 1)), .ref mo, .long ((sp_cell A (xs (5 * j + 1)) (xs (5 * j + 2)) (xs (5 * j + 3)) (xs (5 * j + 4))).1)]) (by rw [nI_clamp (by omega)]) ?_
  refine lv_aload_n hx hb dL_law_694 rfl (lv_at hl 1 rfl) ?_
  refine lv_iload_n hx hb dL_law_695 rfl (lv_at hl 0 rfl) ?_
  refine lv_iconst (v := 3) hx hb dL_law_696 (by decide) ?_
  refine lv_iadd hx hb dL_law_697 ?_
  refine W.eq (g2 := F0 m 698 ls [.int (nI (5 * j + 3)), .ref b, .int (xs (5 * j + 2)), .int (xs (5 * j + 1)), .ref mo, .long ((sp_cell A (xs (5 * j + 1)) (xs (5 * j + 2)) (xs (5 * j + 3)) (xs (5 * j + 4))).1)]) (by rw [show nI (5 * j) + 3 = nI (5 * j + 3) from nI_add _ 3]) ?_
  refine va_sld hx hb hX hbl hbA (law_S hIc) (vp_in_nI (by omega) (by omega)) dL_law_698 ?_
  refine W.eq (g2 := F0 m 699 ls [.int (xs (5 * j + 3)), .int (xs (5 * j + 2)), .int (xs (5 * j + 1)), .ref mo, .long ((sp_cell A (xs (5 * j + 1)) (xs (5 * j + 2)) (xs (5 * j + 3)) (xs (5 * j + 4))).1)]) (by rw [nI_clamp (by omega)]) ?_
  refine lv_aload_n hx hb dL_law_699 rfl (lv_at hl 1 rfl) ?_
  refine lv_iload_n hx hb dL_law_700 rfl (lv_at hl 0 rfl) ?_
  refine lv_iconst (v := 4) hx hb dL_law_701 (by decide) ?_
  refine lv_iadd hx hb dL_law_702 ?_
  refine W.eq (g2 := F0 m 703 ls [.int (nI (5 * j + 4)), .ref b, .int (xs (5 * j + 3)), .int (xs (5 * j + 2)), .int (xs (5 * j + 1)), .ref mo, .long ((sp_cell A (xs (5 * j + 1)) (xs (5 * j + 2)) (xs (5 * j + 3)) (xs (5 * j + 4))).1)]) (by rw [show nI (5 * j) + 4 = nI (5 * j + 4) from nI_add _ 4]) ?_
  refine va_sld hx hb hX hbl hbA (law_S hIc) (vp_in_nI (by omega) (by omega)) dL_law_703 ?_
  refine W.eq (g2 := F0 m 704 ls [.int (xs (5 * j + 4)), .int (xs (5 * j + 3)), .int (xs (5 * j + 2)), .int (xs (5 * j + 1)), .ref mo, .long ((sp_cell A (xs (5 * j + 1)) (xs (5 * j + 2)) (xs (5 * j + 3)) (xs (5 * j + 4))).1)]) (by rw [nI_clamp (by omega)]) ?_
  refine g_callV2 (own := RL) (index := 75) (n := 4) hx hb hml hown hts (c_X11_cell l E _ _ _ ma _ hM nn hw (xs (5 * j + 1)) (xs (5 * j + 2)) (xs (5 * j + 3)) (xs (5 * j + 4))) hM.1 rfl rfl m_ml_L_75 m_im_X11_cell m_se_X11_X11_cell_X11_cell m_in_X11 m_co_X11_cell (by decide +kernel) ⟨Nat.le_of_ble_eq_true rfl, Nat.le_of_ble_eq_true rfl⟩ ⟨show cells + 2 + 0 ≤ 600000 by omega, show slots + 160 + 0 ≤ 7302250 by omega⟩ rfl hl.1 rfl (Nat.le_of_ble_eq_true rfl) dL_law_704 hK hIm hIc (fun q => (hd q).symm) (fun r Gm H locs hp hIm hIc hd => ?_)
  obtain ⟨v, rfl, ev, hM⟩ := hp
  subst ev
  refine W.eq (g2 := F0 m 707 ls [.long ((sp_cell A (xs (5 * j + 1)) (xs (5 * j + 2)) (xs (5 * j + 3)) (xs (5 * j + 4))).1), .long ((sp_cell A (xs (5 * j + 1)) (xs (5 * j + 2)) (xs (5 * j + 3)) (xs (5 * j + 4))).1)]) rfl ?_
  refine W.lcmp hx hb dL_law_707 ?_
  refine lv_if_eq (tgt := 881) hx hb dL_law_708 (by decide) (fun _ => ?_) (fun c9 => absurd ((lg_cmp_eq _ _).mpr rfl) c9)
  exact kk _ n1 _ _ hn1 ⟨Gc, Gm, aa1, ma, hS1, hM, hIc, hIm, fun q => (hd q).symm⟩
set_option maxHeartbeats 4000000 in
set_option maxRecDepth 100000 in
theorem law_case_14 {p : Program} {e : Env} {s : State} {m : MethodId} {below : List Frame} {meth : Method} {c : Code} (l : Launch) {b L : Nat} {xs : Nat → Int32} {E : gE} (hx : p.tables.exec = Jvm.exec) (hb : c.code = code) (hml : c.maxLocals = 4) (hown : s.vm.findClass RL = some m.cls) (hts : ∀ w ∈ wsL_law, w.before #[Value.ref b] s = true) (hX : va_X b L xs s s.heap) (hbl : b < s.heap.size) (hK : gK E s) {x mo j nn cells slots : Nat} {A : gA} {H : Heap} {locs : List Loc} {ls : Array Slot} {Q : State → Prop} (hJ : 5 * j + 5 ≤ L) (hL : L ≤ 2560) (hnj : nn ≤ j) (hz : j = 0 → A = zA) (hIx : LI E s x mo A nn H locs) (hl : lv_has ls 4 [(3, .int (nI (5 * j))), (0, .ref b), (1, .ref x), (2, .ref mo)]) (hce : cells + 2 ≤ 600000) (hsl : slots + 160 ≤ 7302250)
    (kk : ∀ (A1 : gA) (n1 : Nat) (H1 : Heap) (locs1 : List Loc), n1 ≤ nn + 1 → LI E s x mo A1 n1 H1 locs1 → W p l e room_1 s m #[Value.ref b] below meth c H1 locs1 (cells + 2) (slots + 160) Q (F0 m 881 ls [])) : W p l e room_1 s m #[Value.ref b] below meth c H locs cells slots Q (F0 m 713 ls []) := by
  obtain ⟨Gc, Gm, aa, ma, hS, hM, hIc, hIm, hd⟩ := hIx
  have hbA : ¬ (fun q : Nat => s.heap.size ≤ q) b := Nat.not_le.mpr hbl
  have hw : wfb A nn := ⟨hS.1, by omega⟩
  refine lv_aload_n hx hb dL_law_713 rfl (lv_at hl 2 rfl) ?_
  refine lv_aload_n hx hb dL_law_714 rfl (lv_at hl 1 rfl) ?_
  refine lv_iload_n hx hb dL_law_715 rfl (lv_at hl 0 rfl) ?_
  refine lv_iconst (v := 1) hx hb dL_law_716 (by decide) ?_
  refine lv_iadd hx hb dL_law_717 ?_
  refine W.eq (g2 := F0 m 718 ls [.int (nI (5 * j + 1)), .ref b, .ref x]) (by rw [show nI (5 * j) + 1 = nI (5 * j + 1) from nI_add _ 1]) ?_
  refine va_sld hx hb hX hbl hbA (law_S hIc) (vp_in_nI (by omega) (by omega)) dL_law_718 ?_
  refine W.eq (g2 := F0 m 719 ls [.int (xs (5 * j + 1)), .ref x]) (by rw [nI_clamp (by omega)]) ?_
  refine lv_aload_n hx hb dL_law_719 rfl (lv_at hl 1 rfl) ?_
  refine lv_iload_n hx hb dL_law_720 rfl (lv_at hl 0 rfl) ?_
  refine lv_iconst (v := 2) hx hb dL_law_721 (by decide) ?_
  refine lv_iadd hx hb dL_law_722 ?_
  refine W.eq (g2 := F0 m 723 ls [.int (nI (5 * j + 2)), .ref b, .int (xs (5 * j + 1)), .ref x]) (by rw [show nI (5 * j) + 2 = nI (5 * j + 2) from nI_add _ 2]) ?_
  refine va_sld hx hb hX hbl hbA (law_S hIc) (vp_in_nI (by omega) (by omega)) dL_law_723 ?_
  refine W.eq (g2 := F0 m 724 ls [.int (xs (5 * j + 2)), .int (xs (5 * j + 1)), .ref x]) (by rw [nI_clamp (by omega)]) ?_
  refine g_callV2 (own := RL) (index := 76) (n := 2) hx hb hml hown hts (c_X10_harvest l E _ _ _ aa _ nn hS (by omega) (xs (5 * j + 1)) (xs (5 * j + 2))) hS.yc' rfl rfl m_ml_L_76 m_im_X10_harvest m_se_X10_X10_harvest_X10_harvest m_in_X10 m_co_X10_harvest (by decide +kernel) ⟨Nat.le_of_ble_eq_true rfl, Nat.le_of_ble_eq_true rfl⟩ ⟨hce, hsl⟩ rfl hl.1 rfl (Nat.le_of_ble_eq_true rfl) dL_law_724 hK hIc hIm hd (fun r Gc H locs hp hIc hIm hd => ?_)
  obtain ⟨v, rfl, ev, aa1, n1, hn1, hS1⟩ := hp
  subst ev
  refine W.eq (g2 := F0 m 727 ls [.long ((sp_harvc A (xs (5 * j + 1)) (xs (5 * j + 2))).1)]) rfl ?_
  refine lv_pop2_2 hx hb dL_law_727 rfl ?_
  refine lv_aload_n hx hb dL_law_728 rfl (lv_at hl 3 rfl) ?_
  refine lv_aload_n hx hb dL_law_729 rfl (lv_at hl 1 rfl) ?_
  refine lv_iload_n hx hb dL_law_730 rfl (lv_at hl 0 rfl) ?_
  refine lv_iconst (v := 1) hx hb dL_law_731 (by decide) ?_
  refine lv_iadd hx hb dL_law_732 ?_
  refine W.eq (g2 := F0 m 733 ls [.int (nI (5 * j + 1)), .ref b, .ref mo]) (by rw [show nI (5 * j) + 1 = nI (5 * j + 1) from nI_add _ 1]) ?_
  refine va_sld hx hb hX hbl hbA (law_S hIc) (vp_in_nI (by omega) (by omega)) dL_law_733 ?_
  refine W.eq (g2 := F0 m 734 ls [.int (xs (5 * j + 1)), .ref mo]) (by rw [nI_clamp (by omega)]) ?_
  refine lv_aload_n hx hb dL_law_734 rfl (lv_at hl 1 rfl) ?_
  refine lv_iload_n hx hb dL_law_735 rfl (lv_at hl 0 rfl) ?_
  refine lv_iconst (v := 2) hx hb dL_law_736 (by decide) ?_
  refine lv_iadd hx hb dL_law_737 ?_
  refine W.eq (g2 := F0 m 738 ls [.int (nI (5 * j + 2)), .ref b, .int (xs (5 * j + 1)), .ref mo]) (by rw [show nI (5 * j) + 2 = nI (5 * j + 2) from nI_add _ 2]) ?_
  refine va_sld hx hb hX hbl hbA (law_S hIc) (vp_in_nI (by omega) (by omega)) dL_law_738 ?_
  refine W.eq (g2 := F0 m 739 ls [.int (xs (5 * j + 2)), .int (xs (5 * j + 1)), .ref mo]) (by rw [nI_clamp (by omega)]) ?_
  refine g_callV2 (own := RL) (index := 80) (n := 2) hx hb hml hown hts (c_X11_harvest l E _ _ _ ma _ hM nn hw (xs (5 * j + 1)) (xs (5 * j + 2))) hM.1 rfl rfl m_ml_L_80 m_im_X11_harvest m_se_X11_X11_harvest_X11_harvest m_in_X11 m_co_X11_harvest (by decide +kernel) ⟨Nat.le_of_ble_eq_true rfl, Nat.le_of_ble_eq_true rfl⟩ ⟨show cells + 2 + 0 ≤ 600000 by omega, show slots + 160 + 0 ≤ 7302250 by omega⟩ rfl hl.1 rfl (Nat.le_of_ble_eq_true rfl) dL_law_739 hK hIm hIc (fun q => (hd q).symm) (fun r Gm H locs hp hIm hIc hd => ?_)
  obtain ⟨v, rfl, ev, hM⟩ := hp
  subst ev
  refine W.eq (g2 := F0 m 742 ls [.long ((sp_harvest A (xs (5 * j + 1)) (xs (5 * j + 2))).1)]) rfl ?_
  refine lv_pop2_2 hx hb dL_law_742 rfl ?_
  refine lv_goto (tgt := 881) hx hb dL_law_743 (by decide) ?_
  rw [harvc_2] at hS1
  exact kk _ n1 _ _ hn1 ⟨Gc, Gm, aa1, ma, hS1, hM, hIc, hIm, fun q => (hd q).symm⟩
set_option maxHeartbeats 4000000 in
set_option maxRecDepth 100000 in
theorem law_case_15 {p : Program} {e : Env} {s : State} {m : MethodId} {below : List Frame} {meth : Method} {c : Code} (l : Launch) {b L : Nat} {xs : Nat → Int32} {E : gE} (hx : p.tables.exec = Jvm.exec) (hb : c.code = code) (hml : c.maxLocals = 4) (hown : s.vm.findClass RL = some m.cls) (hts : ∀ w ∈ wsL_law, w.before #[Value.ref b] s = true) (hX : va_X b L xs s s.heap) (hbl : b < s.heap.size) (hK : gK E s) {x mo j nn cells slots : Nat} {A : gA} {H : Heap} {locs : List Loc} {ls : Array Slot} {Q : State → Prop} (hJ : 5 * j + 5 ≤ L) (hL : L ≤ 2560) (hnj : nn ≤ j) (hz : j = 0 → A = zA) (hIx : LI E s x mo A nn H locs) (hl : lv_has ls 4 [(3, .int (nI (5 * j))), (0, .ref b), (1, .ref x), (2, .ref mo)]) (hce : cells + 2 ≤ 600000) (hsl : slots + 160 ≤ 7302250)
    (kk : ∀ (A1 : gA) (n1 : Nat) (H1 : Heap) (locs1 : List Loc), n1 ≤ nn + 1 → LI E s x mo A1 n1 H1 locs1 → W p l e room_1 s m #[Value.ref b] below meth c H1 locs1 (cells + 2) (slots + 160) Q (F0 m 881 ls [])) : W p l e room_1 s m #[Value.ref b] below meth c H locs cells slots Q (F0 m 746 ls []) := by
  obtain ⟨Gc, Gm, aa, ma, hS, hM, hIc, hIm, hd⟩ := hIx
  have hbA : ¬ (fun q : Nat => s.heap.size ≤ q) b := Nat.not_le.mpr hbl
  have hw : wfb A nn := ⟨hS.1, by omega⟩
  refine lv_aload_n hx hb dL_law_746 rfl (lv_at hl 2 rfl) ?_
  refine lv_aload_n hx hb dL_law_747 rfl (lv_at hl 1 rfl) ?_
  refine lv_iload_n hx hb dL_law_748 rfl (lv_at hl 0 rfl) ?_
  refine lv_iconst (v := 1) hx hb dL_law_749 (by decide) ?_
  refine lv_iadd hx hb dL_law_750 ?_
  refine W.eq (g2 := F0 m 751 ls [.int (nI (5 * j + 1)), .ref b, .ref x]) (by rw [show nI (5 * j) + 1 = nI (5 * j + 1) from nI_add _ 1]) ?_
  refine va_sld hx hb hX hbl hbA (law_S hIc) (vp_in_nI (by omega) (by omega)) dL_law_751 ?_
  refine W.eq (g2 := F0 m 752 ls [.int (xs (5 * j + 1)), .ref x]) (by rw [nI_clamp (by omega)]) ?_
  refine g_callV2 (own := RL) (index := 81) (n := 1) hx hb hml hown hts (c_X10_sound l E _ _ _ aa _ nn hS (by omega) (xs (5 * j + 1))) hS.yc' rfl rfl m_ml_L_81 m_im_X10_sound m_se_X10_X10_sound_X10_sound m_in_X10 m_co_X10_sound (by decide +kernel) ⟨Nat.le_of_ble_eq_true rfl, Nat.le_of_ble_eq_true rfl⟩ ⟨hce, hsl⟩ rfl hl.1 rfl (Nat.le_of_ble_eq_true rfl) dL_law_752 hK hIc hIm hd (fun r Gc H locs hp hIc hIm hd => ?_)
  obtain ⟨v, rfl, ev, aa1, n1, hn1, hS1⟩ := hp
  subst ev
  refine W.eq (g2 := F0 m 755 ls [.int ((sp_sound A (xs (5 * j + 1))).1)]) rfl ?_
  refine lv_pop hx hb dL_law_755 rfl ?_
  refine lv_aload_n hx hb dL_law_756 rfl (lv_at hl 3 rfl) ?_
  refine lv_aload_n hx hb dL_law_757 rfl (lv_at hl 1 rfl) ?_
  refine lv_iload_n hx hb dL_law_758 rfl (lv_at hl 0 rfl) ?_
  refine lv_iconst (v := 1) hx hb dL_law_759 (by decide) ?_
  refine lv_iadd hx hb dL_law_760 ?_
  refine W.eq (g2 := F0 m 761 ls [.int (nI (5 * j + 1)), .ref b, .ref mo]) (by rw [show nI (5 * j) + 1 = nI (5 * j + 1) from nI_add _ 1]) ?_
  refine va_sld hx hb hX hbl hbA (law_S hIc) (vp_in_nI (by omega) (by omega)) dL_law_761 ?_
  refine W.eq (g2 := F0 m 762 ls [.int (xs (5 * j + 1)), .ref mo]) (by rw [nI_clamp (by omega)]) ?_
  refine g_callV2 (own := RL) (index := 84) (n := 1) hx hb hml hown hts (c_X11_sound l E _ _ _ ma _ hM nn hw (xs (5 * j + 1))) hM.1 rfl rfl m_ml_L_84 m_im_X11_sound m_se_X11_X11_sound_X11_sound m_in_X11 m_co_X11_sound (by decide +kernel) ⟨Nat.le_of_ble_eq_true rfl, Nat.le_of_ble_eq_true rfl⟩ ⟨show cells + 2 + 0 ≤ 600000 by omega, show slots + 160 + 0 ≤ 7302250 by omega⟩ rfl hl.1 rfl (Nat.le_of_ble_eq_true rfl) dL_law_762 hK hIm hIc (fun q => (hd q).symm) (fun r Gm H locs hp hIm hIc hd => ?_)
  obtain ⟨v, rfl, ev, hM⟩ := hp
  subst ev
  refine W.eq (g2 := F0 m 765 ls [.int ((sp_sound A (xs (5 * j + 1))).1)]) rfl ?_
  refine lv_pop hx hb dL_law_765 rfl ?_
  refine lv_goto (tgt := 881) hx hb dL_law_766 (by decide) ?_
  exact kk _ n1 _ _ hn1 ⟨Gc, Gm, aa1, ma, hS1, hM, hIc, hIm, fun q => (hd q).symm⟩
set_option maxHeartbeats 4000000 in
set_option maxRecDepth 100000 in
theorem law_case_16 {p : Program} {e : Env} {s : State} {m : MethodId} {below : List Frame} {meth : Method} {c : Code} (l : Launch) {b L : Nat} {xs : Nat → Int32} {E : gE} (hx : p.tables.exec = Jvm.exec) (hb : c.code = code) (hml : c.maxLocals = 4) (hown : s.vm.findClass RL = some m.cls) (hts : ∀ w ∈ wsL_law, w.before #[Value.ref b] s = true) (hX : va_X b L xs s s.heap) (hbl : b < s.heap.size) (hK : gK E s) {x mo j nn cells slots : Nat} {A : gA} {H : Heap} {locs : List Loc} {ls : Array Slot} {Q : State → Prop} (hJ : 5 * j + 5 ≤ L) (hL : L ≤ 2560) (hnj : nn ≤ j) (hz : j = 0 → A = zA) (hIx : LI E s x mo A nn H locs) (hl : lv_has ls 4 [(3, .int (nI (5 * j))), (0, .ref b), (1, .ref x), (2, .ref mo)]) (hce : cells + 2 ≤ 600000) (hsl : slots + 160 ≤ 7302250)
    (kk : ∀ (A1 : gA) (n1 : Nat) (H1 : Heap) (locs1 : List Loc), n1 ≤ nn + 1 → LI E s x mo A1 n1 H1 locs1 → W p l e room_1 s m #[Value.ref b] below meth c H1 locs1 (cells + 2) (slots + 160) Q (F0 m 881 ls [])) : W p l e room_1 s m #[Value.ref b] below meth c H locs cells slots Q (F0 m 769 ls []) := by
  obtain ⟨Gc, Gm, aa, ma, hS, hM, hIc, hIm, hd⟩ := hIx
  have hbA : ¬ (fun q : Nat => s.heap.size ≤ q) b := Nat.not_le.mpr hbl
  have hw : wfb A nn := ⟨hS.1, by omega⟩
  refine lv_aload_n hx hb dL_law_769 rfl (lv_at hl 2 rfl) ?_
  refine lv_aload_n hx hb dL_law_770 rfl (lv_at hl 1 rfl) ?_
  refine lv_iload_n hx hb dL_law_771 rfl (lv_at hl 0 rfl) ?_
  refine lv_iconst (v := 1) hx hb dL_law_772 (by decide) ?_
  refine lv_iadd hx hb dL_law_773 ?_
  refine W.eq (g2 := F0 m 774 ls [.int (nI (5 * j + 1)), .ref b, .ref x]) (by rw [show nI (5 * j) + 1 = nI (5 * j + 1) from nI_add _ 1]) ?_
  refine va_sld hx hb hX hbl hbA (law_S hIc) (vp_in_nI (by omega) (by omega)) dL_law_774 ?_
  refine W.eq (g2 := F0 m 775 ls [.int (xs (5 * j + 1)), .ref x]) (by rw [nI_clamp (by omega)]) ?_
  refine g_callV2 (own := RL) (index := 85) (n := 1) hx hb hml hown hts (c_X10_sort l E _ _ _ aa _ nn hS (by omega) (xs (5 * j + 1))) hS.yc' rfl rfl m_ml_L_85 m_im_X10_sort m_se_X10_X10_sort_X10_sort m_in_X10 m_co_X10_sort (by decide +kernel) ⟨Nat.le_of_ble_eq_true rfl, Nat.le_of_ble_eq_true rfl⟩ ⟨hce, hsl⟩ rfl hl.1 rfl (Nat.le_of_ble_eq_true rfl) dL_law_775 hK hIc hIm hd (fun r Gc H locs hp hIc hIm hd => ?_)
  obtain ⟨v, rfl, ev, aa1, n1, hn1, hS1⟩ := hp
  subst ev
  refine W.eq (g2 := F0 m 778 ls [.int ((sp_sort A (xs (5 * j + 1))).1)]) rfl ?_
  refine lv_pop hx hb dL_law_778 rfl ?_
  refine lv_aload_n hx hb dL_law_779 rfl (lv_at hl 3 rfl) ?_
  refine lv_aload_n hx hb dL_law_780 rfl (lv_at hl 1 rfl) ?_
  refine lv_iload_n hx hb dL_law_781 rfl (lv_at hl 0 rfl) ?_
  refine lv_iconst (v := 1) hx hb dL_law_782 (by decide) ?_
  refine lv_iadd hx hb dL_law_783 ?_
  refine W.eq (g2 := F0 m 784 ls [.int (nI (5 * j + 1)), .ref b, .ref mo]) (by rw [show nI (5 * j) + 1 = nI (5 * j + 1) from nI_add _ 1]) ?_
  refine va_sld hx hb hX hbl hbA (law_S hIc) (vp_in_nI (by omega) (by omega)) dL_law_784 ?_
  refine W.eq (g2 := F0 m 785 ls [.int (xs (5 * j + 1)), .ref mo]) (by rw [nI_clamp (by omega)]) ?_
  refine g_callV2 (own := RL) (index := 88) (n := 1) hx hb hml hown hts (c_X11_sort l E _ _ _ ma _ hM nn hw (xs (5 * j + 1))) hM.1 rfl rfl m_ml_L_88 m_im_X11_sort m_se_X11_X11_sort_X11_sort m_in_X11 m_co_X11_sort (by decide +kernel) ⟨Nat.le_of_ble_eq_true rfl, Nat.le_of_ble_eq_true rfl⟩ ⟨show cells + 2 + 0 ≤ 600000 by omega, show slots + 160 + 0 ≤ 7302250 by omega⟩ rfl hl.1 rfl (Nat.le_of_ble_eq_true rfl) dL_law_785 hK hIm hIc (fun q => (hd q).symm) (fun r Gm H locs hp hIm hIc hd => ?_)
  obtain ⟨v, rfl, ev, hM⟩ := hp
  subst ev
  refine W.eq (g2 := F0 m 788 ls [.int ((sp_sort A (xs (5 * j + 1))).1)]) rfl ?_
  refine lv_pop hx hb dL_law_788 rfl ?_
  refine lv_goto (tgt := 881) hx hb dL_law_789 (by decide) ?_
  exact kk _ n1 _ _ hn1 ⟨Gc, Gm, aa1, ma, hS1, hM, hIc, hIm, fun q => (hd q).symm⟩
set_option maxHeartbeats 4000000 in
set_option maxRecDepth 100000 in
theorem law_case_17 {p : Program} {e : Env} {s : State} {m : MethodId} {below : List Frame} {meth : Method} {c : Code} (l : Launch) {b L : Nat} {xs : Nat → Int32} {E : gE} (hx : p.tables.exec = Jvm.exec) (hb : c.code = code) (hml : c.maxLocals = 4) (hown : s.vm.findClass RL = some m.cls) (hts : ∀ w ∈ wsL_law, w.before #[Value.ref b] s = true) (hX : va_X b L xs s s.heap) (hbl : b < s.heap.size) (hK : gK E s) {x mo j nn cells slots : Nat} {A : gA} {H : Heap} {locs : List Loc} {ls : Array Slot} {Q : State → Prop} (hJ : 5 * j + 5 ≤ L) (hL : L ≤ 2560) (hnj : nn ≤ j) (hz : j = 0 → A = zA) (hIx : LI E s x mo A nn H locs) (hl : lv_has ls 4 [(3, .int (nI (5 * j))), (0, .ref b), (1, .ref x), (2, .ref mo)]) (hce : cells + 2 ≤ 600000) (hsl : slots + 160 ≤ 7302250)
    (kk : ∀ (A1 : gA) (n1 : Nat) (H1 : Heap) (locs1 : List Loc), n1 ≤ nn + 1 → LI E s x mo A1 n1 H1 locs1 → W p l e room_1 s m #[Value.ref b] below meth c H1 locs1 (cells + 2) (slots + 160) Q (F0 m 881 ls [])) : W p l e room_1 s m #[Value.ref b] below meth c H locs cells slots Q (F0 m 792 ls []) := by
  obtain ⟨Gc, Gm, aa, ma, hS, hM, hIc, hIm, hd⟩ := hIx
  have hbA : ¬ (fun q : Nat => s.heap.size ≤ q) b := Nat.not_le.mpr hbl
  have hw : wfb A nn := ⟨hS.1, by omega⟩
  refine lv_aload_n hx hb dL_law_792 rfl (lv_at hl 2 rfl) ?_
  refine lv_aload_n hx hb dL_law_793 rfl (lv_at hl 1 rfl) ?_
  refine lv_iload_n hx hb dL_law_794 rfl (lv_at hl 0 rfl) ?_
  refine lv_iconst (v := 1) hx hb dL_law_795 (by decide) ?_
  refine lv_iadd hx hb dL_law_796 ?_
  refine W.eq (g2 := F0 m 797 ls [.int (nI (5 * j + 1)), .ref b, .ref x]) (by rw [show nI (5 * j) + 1 = nI (5 * j + 1) from nI_add _ 1]) ?_
  refine va_sld hx hb hX hbl hbA (law_S hIc) (vp_in_nI (by omega) (by omega)) dL_law_797 ?_
  refine W.eq (g2 := F0 m 798 ls [.int (xs (5 * j + 1)), .ref x]) (by rw [nI_clamp (by omega)]) ?_
  refine lv_aload_n hx hb dL_law_798 rfl (lv_at hl 1 rfl) ?_
  refine lv_iload_n hx hb dL_law_799 rfl (lv_at hl 0 rfl) ?_
  refine lv_iconst (v := 2) hx hb dL_law_800 (by decide) ?_
  refine lv_iadd hx hb dL_law_801 ?_
  refine W.eq (g2 := F0 m 802 ls [.int (nI (5 * j + 2)), .ref b, .int (xs (5 * j + 1)), .ref x]) (by rw [show nI (5 * j) + 2 = nI (5 * j + 2) from nI_add _ 2]) ?_
  refine va_sld hx hb hX hbl hbA (law_S hIc) (vp_in_nI (by omega) (by omega)) dL_law_802 ?_
  refine W.eq (g2 := F0 m 803 ls [.int (xs (5 * j + 2)), .int (xs (5 * j + 1)), .ref x]) (by rw [nI_clamp (by omega)]) ?_
  refine g_callV2 (own := RL) (index := 89) (n := 2) hx hb hml hown hts (c_X10_told l E _ _ _ aa _ nn hS (by omega) (xs (5 * j + 1)) (xs (5 * j + 2))) hS.yc' rfl rfl m_ml_L_89 m_im_X10_told m_se_X10_X10_told_X10_told m_in_X10 m_co_X10_told (by decide +kernel) ⟨Nat.le_of_ble_eq_true rfl, Nat.le_of_ble_eq_true rfl⟩ ⟨hce, hsl⟩ rfl hl.1 rfl (Nat.le_of_ble_eq_true rfl) dL_law_803 hK hIc hIm hd (fun r Gc H locs hp hIc hIm hd => ?_)
  obtain ⟨v, rfl, ev, aa1, n1, hn1, hS1⟩ := hp
  subst ev
  refine W.eq (g2 := F0 m 806 ls [.long ((sp_told A (xs (5 * j + 1)) (xs (5 * j + 2))).1)]) rfl ?_
  refine lv_pop2_2 hx hb dL_law_806 rfl ?_
  refine lv_aload_n hx hb dL_law_807 rfl (lv_at hl 3 rfl) ?_
  refine lv_aload_n hx hb dL_law_808 rfl (lv_at hl 1 rfl) ?_
  refine lv_iload_n hx hb dL_law_809 rfl (lv_at hl 0 rfl) ?_
  refine lv_iconst (v := 1) hx hb dL_law_810 (by decide) ?_
  refine lv_iadd hx hb dL_law_811 ?_
  refine W.eq (g2 := F0 m 812 ls [.int (nI (5 * j + 1)), .ref b, .ref mo]) (by rw [show nI (5 * j) + 1 = nI (5 * j + 1) from nI_add _ 1]) ?_
  refine va_sld hx hb hX hbl hbA (law_S hIc) (vp_in_nI (by omega) (by omega)) dL_law_812 ?_
  refine W.eq (g2 := F0 m 813 ls [.int (xs (5 * j + 1)), .ref mo]) (by rw [nI_clamp (by omega)]) ?_
  refine lv_aload_n hx hb dL_law_813 rfl (lv_at hl 1 rfl) ?_
  refine lv_iload_n hx hb dL_law_814 rfl (lv_at hl 0 rfl) ?_
  refine lv_iconst (v := 2) hx hb dL_law_815 (by decide) ?_
  refine lv_iadd hx hb dL_law_816 ?_
  refine W.eq (g2 := F0 m 817 ls [.int (nI (5 * j + 2)), .ref b, .int (xs (5 * j + 1)), .ref mo]) (by rw [show nI (5 * j) + 2 = nI (5 * j + 2) from nI_add _ 2]) ?_
  refine va_sld hx hb hX hbl hbA (law_S hIc) (vp_in_nI (by omega) (by omega)) dL_law_817 ?_
  refine W.eq (g2 := F0 m 818 ls [.int (xs (5 * j + 2)), .int (xs (5 * j + 1)), .ref mo]) (by rw [nI_clamp (by omega)]) ?_
  refine g_callV2 (own := RL) (index := 92) (n := 2) hx hb hml hown hts (c_X11_told l E _ _ _ ma _ hM nn hw (xs (5 * j + 1)) (xs (5 * j + 2))) hM.1 rfl rfl m_ml_L_92 m_im_X11_told m_se_X11_X11_told_X11_told m_in_X11 m_co_X11_told (by decide +kernel) ⟨Nat.le_of_ble_eq_true rfl, Nat.le_of_ble_eq_true rfl⟩ ⟨show cells + 2 + 0 ≤ 600000 by omega, show slots + 160 + 0 ≤ 7302250 by omega⟩ rfl hl.1 rfl (Nat.le_of_ble_eq_true rfl) dL_law_818 hK hIm hIc (fun q => (hd q).symm) (fun r Gm H locs hp hIm hIc hd => ?_)
  obtain ⟨v, rfl, ev, hM⟩ := hp
  subst ev
  refine W.eq (g2 := F0 m 821 ls [.long ((sp_told A (xs (5 * j + 1)) (xs (5 * j + 2))).1)]) rfl ?_
  refine lv_pop2_2 hx hb dL_law_821 rfl ?_
  refine lv_goto (tgt := 881) hx hb dL_law_822 (by decide) ?_
  exact kk _ n1 _ _ hn1 ⟨Gc, Gm, aa1, ma, hS1, hM, hIc, hIm, fun q => (hd q).symm⟩
set_option maxHeartbeats 4000000 in
set_option maxRecDepth 100000 in
theorem law_case_18 {p : Program} {e : Env} {s : State} {m : MethodId} {below : List Frame} {meth : Method} {c : Code} (l : Launch) {b L : Nat} {xs : Nat → Int32} {E : gE} (hx : p.tables.exec = Jvm.exec) (hb : c.code = code) (hml : c.maxLocals = 4) (hown : s.vm.findClass RL = some m.cls) (hts : ∀ w ∈ wsL_law, w.before #[Value.ref b] s = true) (hX : va_X b L xs s s.heap) (hbl : b < s.heap.size) (hK : gK E s) {x mo j nn cells slots : Nat} {A : gA} {H : Heap} {locs : List Loc} {ls : Array Slot} {Q : State → Prop} (hJ : 5 * j + 5 ≤ L) (hL : L ≤ 2560) (hnj : nn ≤ j) (hz : j = 0 → A = zA) (hIx : LI E s x mo A nn H locs) (hl : lv_has ls 4 [(3, .int (nI (5 * j))), (0, .ref b), (1, .ref x), (2, .ref mo)]) (hce : cells + 2 ≤ 600000) (hsl : slots + 160 ≤ 7302250)
    (kk : ∀ (A1 : gA) (n1 : Nat) (H1 : Heap) (locs1 : List Loc), n1 ≤ nn + 1 → LI E s x mo A1 n1 H1 locs1 → W p l e room_1 s m #[Value.ref b] below meth c H1 locs1 (cells + 2) (slots + 160) Q (F0 m 881 ls [])) : W p l e room_1 s m #[Value.ref b] below meth c H locs cells slots Q (F0 m 825 ls []) := by
  obtain ⟨Gc, Gm, aa, ma, hS, hM, hIc, hIm, hd⟩ := hIx
  have hbA : ¬ (fun q : Nat => s.heap.size ≤ q) b := Nat.not_le.mpr hbl
  have hw : wfb A nn := ⟨hS.1, by omega⟩
  refine lv_aload_n hx hb dL_law_825 rfl (lv_at hl 2 rfl) ?_
  refine lv_aload_n hx hb dL_law_826 rfl (lv_at hl 1 rfl) ?_
  refine lv_iload_n hx hb dL_law_827 rfl (lv_at hl 0 rfl) ?_
  refine lv_iconst (v := 1) hx hb dL_law_828 (by decide) ?_
  refine lv_iadd hx hb dL_law_829 ?_
  refine W.eq (g2 := F0 m 830 ls [.int (nI (5 * j + 1)), .ref b, .ref x]) (by rw [show nI (5 * j) + 1 = nI (5 * j + 1) from nI_add _ 1]) ?_
  refine va_sld hx hb hX hbl hbA (law_S hIc) (vp_in_nI (by omega) (by omega)) dL_law_830 ?_
  refine W.eq (g2 := F0 m 831 ls [.int (xs (5 * j + 1)), .ref x]) (by rw [nI_clamp (by omega)]) ?_
  refine lv_aload_n hx hb dL_law_831 rfl (lv_at hl 1 rfl) ?_
  refine lv_iload_n hx hb dL_law_832 rfl (lv_at hl 0 rfl) ?_
  refine lv_iconst (v := 2) hx hb dL_law_833 (by decide) ?_
  refine lv_iadd hx hb dL_law_834 ?_
  refine W.eq (g2 := F0 m 835 ls [.int (nI (5 * j + 2)), .ref b, .int (xs (5 * j + 1)), .ref x]) (by rw [show nI (5 * j) + 2 = nI (5 * j + 2) from nI_add _ 2]) ?_
  refine va_sld hx hb hX hbl hbA (law_S hIc) (vp_in_nI (by omega) (by omega)) dL_law_835 ?_
  refine W.eq (g2 := F0 m 836 ls [.int (xs (5 * j + 2)), .int (xs (5 * j + 1)), .ref x]) (by rw [nI_clamp (by omega)]) ?_
  refine g_callV2 (own := RL) (index := 93) (n := 2) hx hb hml hown hts (c_X10_same l E _ _ _ aa _ nn hS (by omega) (xs (5 * j + 1)) (xs (5 * j + 2))) hS.yc' rfl rfl m_ml_L_93 m_im_X10_same m_se_X10_X10_same_X10_same m_in_X10 m_co_X10_same (by decide +kernel) ⟨Nat.le_of_ble_eq_true rfl, Nat.le_of_ble_eq_true rfl⟩ ⟨hce, hsl⟩ rfl hl.1 rfl (Nat.le_of_ble_eq_true rfl) dL_law_836 hK hIc hIm hd (fun r Gc H locs hp hIc hIm hd => ?_)
  obtain ⟨v, rfl, ev, aa1, n1, hn1, hS1⟩ := hp
  subst ev
  refine W.eq (g2 := F0 m 839 ls [.int ((sp_same A (xs (5 * j + 1)) (xs (5 * j + 2))).1)]) rfl ?_
  refine lv_pop hx hb dL_law_839 rfl ?_
  refine lv_aload_n hx hb dL_law_840 rfl (lv_at hl 3 rfl) ?_
  refine lv_aload_n hx hb dL_law_841 rfl (lv_at hl 1 rfl) ?_
  refine lv_iload_n hx hb dL_law_842 rfl (lv_at hl 0 rfl) ?_
  refine lv_iconst (v := 1) hx hb dL_law_843 (by decide) ?_
  refine lv_iadd hx hb dL_law_844 ?_
  refine W.eq (g2 := F0 m 845 ls [.int (nI (5 * j + 1)), .ref b, .ref mo]) (by rw [show nI (5 * j) + 1 = nI (5 * j + 1) from nI_add _ 1]) ?_
  refine va_sld hx hb hX hbl hbA (law_S hIc) (vp_in_nI (by omega) (by omega)) dL_law_845 ?_
  refine W.eq (g2 := F0 m 846 ls [.int (xs (5 * j + 1)), .ref mo]) (by rw [nI_clamp (by omega)]) ?_
  refine lv_aload_n hx hb dL_law_846 rfl (lv_at hl 1 rfl) ?_
  refine lv_iload_n hx hb dL_law_847 rfl (lv_at hl 0 rfl) ?_
  refine lv_iconst (v := 2) hx hb dL_law_848 (by decide) ?_
  refine lv_iadd hx hb dL_law_849 ?_
  refine W.eq (g2 := F0 m 850 ls [.int (nI (5 * j + 2)), .ref b, .int (xs (5 * j + 1)), .ref mo]) (by rw [show nI (5 * j) + 2 = nI (5 * j + 2) from nI_add _ 2]) ?_
  refine va_sld hx hb hX hbl hbA (law_S hIc) (vp_in_nI (by omega) (by omega)) dL_law_850 ?_
  refine W.eq (g2 := F0 m 851 ls [.int (xs (5 * j + 2)), .int (xs (5 * j + 1)), .ref mo]) (by rw [nI_clamp (by omega)]) ?_
  refine g_callV2 (own := RL) (index := 96) (n := 2) hx hb hml hown hts (c_X11_same l E _ _ _ ma _ hM nn hw (xs (5 * j + 1)) (xs (5 * j + 2))) hM.1 rfl rfl m_ml_L_96 m_im_X11_same m_se_X11_X11_same_X11_same m_in_X11 m_co_X11_same (by decide +kernel) ⟨Nat.le_of_ble_eq_true rfl, Nat.le_of_ble_eq_true rfl⟩ ⟨show cells + 2 + 0 ≤ 600000 by omega, show slots + 160 + 0 ≤ 7302250 by omega⟩ rfl hl.1 rfl (Nat.le_of_ble_eq_true rfl) dL_law_851 hK hIm hIc (fun q => (hd q).symm) (fun r Gm H locs hp hIm hIc hd => ?_)
  obtain ⟨v, rfl, ev, hM⟩ := hp
  subst ev
  refine W.eq (g2 := F0 m 854 ls [.int ((sp_same A (xs (5 * j + 1)) (xs (5 * j + 2))).1)]) rfl ?_
  refine lv_pop hx hb dL_law_854 rfl ?_
  refine lv_goto (tgt := 881) hx hb dL_law_855 (by decide) ?_
  exact kk _ n1 _ _ hn1 ⟨Gc, Gm, aa1, ma, hS1, hM, hIc, hIm, fun q => (hd q).symm⟩
set_option maxHeartbeats 4000000 in
set_option maxRecDepth 100000 in
theorem law_case_19 {p : Program} {e : Env} {s : State} {m : MethodId} {below : List Frame} {meth : Method} {c : Code} (l : Launch) {b L : Nat} {xs : Nat → Int32} {E : gE} (hx : p.tables.exec = Jvm.exec) (hb : c.code = code) (hml : c.maxLocals = 4) (hown : s.vm.findClass RL = some m.cls) (hts : ∀ w ∈ wsL_law, w.before #[Value.ref b] s = true) (hX : va_X b L xs s s.heap) (hbl : b < s.heap.size) (hK : gK E s) {x mo j nn cells slots : Nat} {A : gA} {H : Heap} {locs : List Loc} {ls : Array Slot} {Q : State → Prop} (hJ : 5 * j + 5 ≤ L) (hL : L ≤ 2560) (hnj : nn ≤ j) (hz : j = 0 → A = zA) (hIx : LI E s x mo A nn H locs) (hl : lv_has ls 4 [(3, .int (nI (5 * j))), (0, .ref b), (1, .ref x), (2, .ref mo)]) (hce : cells + 2 ≤ 600000) (hsl : slots + 160 ≤ 7302250)
    (kk : ∀ (A1 : gA) (n1 : Nat) (H1 : Heap) (locs1 : List Loc), n1 ≤ nn + 1 → LI E s x mo A1 n1 H1 locs1 → W p l e room_1 s m #[Value.ref b] below meth c H1 locs1 (cells + 2) (slots + 160) Q (F0 m 881 ls [])) : W p l e room_1 s m #[Value.ref b] below meth c H locs cells slots Q (F0 m 858 ls []) := by
  obtain ⟨Gc, Gm, aa, ma, hS, hM, hIc, hIm, hd⟩ := hIx
  have hbA : ¬ (fun q : Nat => s.heap.size ≤ q) b := Nat.not_le.mpr hbl
  have hw : wfb A nn := ⟨hS.1, by omega⟩
  refine lv_aload_n hx hb dL_law_858 rfl (lv_at hl 2 rfl) ?_
  refine lv_aload_n hx hb dL_law_859 rfl (lv_at hl 1 rfl) ?_
  refine lv_iload_n hx hb dL_law_860 rfl (lv_at hl 0 rfl) ?_
  refine lv_iconst (v := 1) hx hb dL_law_861 (by decide) ?_
  refine lv_iadd hx hb dL_law_862 ?_
  refine W.eq (g2 := F0 m 863 ls [.int (nI (5 * j + 1)), .ref b, .ref x]) (by rw [show nI (5 * j) + 1 = nI (5 * j + 1) from nI_add _ 1]) ?_
  refine va_sld hx hb hX hbl hbA (law_S hIc) (vp_in_nI (by omega) (by omega)) dL_law_863 ?_
  refine W.eq (g2 := F0 m 864 ls [.int (xs (5 * j + 1)), .ref x]) (by rw [nI_clamp (by omega)]) ?_
  refine g_callV2 (own := RL) (index := 97) (n := 1) hx hb hml hown hts (c_X10_count l E _ _ _ aa _ nn hS (by omega) (xs (5 * j + 1))) hS.yc' rfl rfl m_ml_L_97 m_im_X10_count m_se_X10_X10_count_X10_count m_in_X10 m_co_X10_count (by decide +kernel) ⟨Nat.le_of_ble_eq_true rfl, Nat.le_of_ble_eq_true rfl⟩ ⟨hce, hsl⟩ rfl hl.1 rfl (Nat.le_of_ble_eq_true rfl) dL_law_864 hK hIc hIm hd (fun r Gc H locs hp hIc hIm hd => ?_)
  obtain ⟨v, rfl, ev, aa1, n1, hn1, hS1⟩ := hp
  subst ev
  refine W.eq (g2 := F0 m 867 ls [.int ((sp_count A (xs (5 * j + 1))).1)]) rfl ?_
  refine lv_pop hx hb dL_law_867 rfl ?_
  refine lv_aload_n hx hb dL_law_868 rfl (lv_at hl 3 rfl) ?_
  refine lv_aload_n hx hb dL_law_869 rfl (lv_at hl 1 rfl) ?_
  refine lv_iload_n hx hb dL_law_870 rfl (lv_at hl 0 rfl) ?_
  refine lv_iconst (v := 1) hx hb dL_law_871 (by decide) ?_
  refine lv_iadd hx hb dL_law_872 ?_
  refine W.eq (g2 := F0 m 873 ls [.int (nI (5 * j + 1)), .ref b, .ref mo]) (by rw [show nI (5 * j) + 1 = nI (5 * j + 1) from nI_add _ 1]) ?_
  refine va_sld hx hb hX hbl hbA (law_S hIc) (vp_in_nI (by omega) (by omega)) dL_law_873 ?_
  refine W.eq (g2 := F0 m 874 ls [.int (xs (5 * j + 1)), .ref mo]) (by rw [nI_clamp (by omega)]) ?_
  refine g_callV2 (own := RL) (index := 100) (n := 1) hx hb hml hown hts (c_X11_count l E _ _ _ ma _ hM nn hw (xs (5 * j + 1))) hM.1 rfl rfl m_ml_L_100 m_im_X11_count m_se_X11_X11_count_X11_count m_in_X11 m_co_X11_count (by decide +kernel) ⟨Nat.le_of_ble_eq_true rfl, Nat.le_of_ble_eq_true rfl⟩ ⟨show cells + 2 + 0 ≤ 600000 by omega, show slots + 160 + 0 ≤ 7302250 by omega⟩ rfl hl.1 rfl (Nat.le_of_ble_eq_true rfl) dL_law_874 hK hIm hIc (fun q => (hd q).symm) (fun r Gm H locs hp hIm hIc hd => ?_)
  obtain ⟨v, rfl, ev, hM⟩ := hp
  subst ev
  refine W.eq (g2 := F0 m 877 ls [.int ((sp_count A (xs (5 * j + 1))).1)]) rfl ?_
  refine lv_pop hx hb dL_law_877 rfl ?_
  refine lv_goto (tgt := 881) hx hb dL_law_878 (by decide) ?_
  exact kk _ n1 _ _ hn1 ⟨Gc, Gm, aa1, ma, hS1, hM, hIc, hIm, fun q => (hd q).symm⟩
