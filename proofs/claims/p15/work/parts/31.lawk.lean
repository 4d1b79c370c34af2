set_option maxHeartbeats 4000000 in
set_option maxRecDepth 100000 in
theorem law_K {s : State} {b : Nat} (hts : ∀ w ∈ lw_tbl, w.before #[Value.ref b] s = true) (hgv : (Jvm.Cond.and given_1 narrow_1).before #[Value.ref b] s = true) : ∃ E : gE, gK E s := by
  have htl : ∀ w ∈ wsL_law, w.before #[Value.ref b] s = true := fun w h => hts w (wsL_law_in w h)
  have hs := flat_of_before _ hgv
  obtain ⟨c0, i0, hK0⟩ := u_known (C := RX0) (T := TX0) (N := 2) (n := 2) htl inlX0 (htl _ m_it_X0)
  obtain ⟨c1, i1, hK1⟩ := u_known (C := RX1) (T := TX1) (N := 3) (n := 3) htl inlX1 (htl _ m_it_X1)
  obtain ⟨c2, i2, hK2⟩ := u_known (C := RX2) (T := TX2) (N := 3) (n := 3) htl inlX2 (htl _ m_it_X2)
  obtain ⟨c3, i3, hK3⟩ := u_known (C := RX3) (T := TX3) (N := 2) (n := 2) htl inlX3 (htl _ m_it_X3)
  obtain ⟨c4, i4, hK4⟩ := u_known (C := RX4) (T := TX4) (N := 2) (n := 2) htl inlX4 (htl _ m_it_X4)
  obtain ⟨c5, i5, hK5⟩ := u_known (C := RX5) (T := TX5) (N := 6) (n := 6) htl inlX5 (htl _ m_it_X5)
  obtain ⟨c6, i6, hK6⟩ := u_known (C := RX7) (T := TX7) (N := 3) (n := 3) htl inlX7 (htl _ m_it_X7)
  obtain ⟨c7, i7, hK7⟩ := u_known (C := RX8) (T := TX8) (N := 2) (n := 2) htl inlX8 (htl _ m_it_X8)
  obtain ⟨c8, i8, hK8⟩ := u_known (C := RX10) (T := TX10) (N := 3) (n := 3) htl inlX10 (htl _ m_it_X10)
  obtain ⟨c9, i9, hK9⟩ := u_known (C := RX11) (T := TX11) (N := 15) (n := 15) htl inlX11 (htl _ m_it_X11)
  obtain ⟨cI, kI, compI, a1, a2, a3⟩ := Cond.arrayClass_spec (htl _ m_ac_int)
  obtain ⟨compT, cT, kT, b1, -, b3, b4, b5⟩ := Cond.arrayOver_spec (hts _ t_ao_X9)
  obtain ⟨compF, cF, kF, f1, -, f3, f4, f5⟩ := Cond.arrayOver_spec (hts _ t_ao_X4)
  refine ⟨((fun k => if k = 0 then c0 else if k = 1 then c1 else if k = 2 then c2 else if k = 3 then c3 else if k = 4 then c4 else if k = 5 then c5 else if k = 6 then c6 else if k = 7 then c7 else if k = 8 then c8 else c9, fun k => if k = 0 then i0 else if k = 1 then i1 else if k = 2 then i2 else if k = 3 then i3 else if k = 4 then i4 else if k = 5 then i5 else if k = 6 then i6 else if k = 7 then i7 else if k = 8 then i8 else i9), cI, cT, cF), ⟨?_, ?_⟩, ⟨va_AO.of (hts _ t_ao_X9), va_Nw.of rfl (hts _ t_de_q_X6_canCareFor), va_Nw.of rfl (hts _ t_de_q_X6_careFor)⟩, va_AO.of (hts _ t_ao_X4), ?_⟩
  · intro k q hq
    match k, hq with
    | 0, hq => cases hq; exact hK0
    | 1, hq => cases hq; exact hK1
    | 2, hq => cases hq; exact hK2
    | 3, hq => cases hq; exact hK3
    | 4, hq => cases hq; exact hK4
    | 5, hq => cases hq; exact hK5
    | 6, hq => cases hq; exact hK6
    | 7, hq => cases hq; exact hK7
    | 8, hq => cases hq; exact hK8
    | 9, hq => cases hq; exact hK9
    | k + 10, hq => simp [vwCl] at hq
  · intro k q hq
    match k, hq with
    | 0, hq => cases hq; exact ⟨fun n z => ⟨fun k h => (by cases h), kI, a2, compI, a3⟩, a1⟩
    | 1, hq => cases hq; exact ⟨fun n z => ⟨fun k h => (by cases h), kT, b3, compT, b4⟩, kT, compT, b3, b4, b1, b5⟩
    | 2, hq => cases hq; exact ⟨fun n z => ⟨fun k h => (by cases h), kF, f3, compF, f4⟩, kF, compF, f3, f4, f1, f5⟩
    | k + 3, hq => simp at hq
  · intro c hc t ht
    simp only [gth, gtg, List.mem_cons, List.not_mem_nil, or_false] at hc ht
    rcases hc with rfl | rfl | rfl | rfl | rfl | rfl | rfl <;> rcases ht with rfl | rfl | rfl | rfl | rfl | rfl | rfl
    · rw [if_pos (by decide)]; exact va_Nw.of rfl (hts _ t_ca_X0_X9)
    · rw [if_neg (by decide)]; exact va_Nc.of (hs (.not (.castable RX0 RX4)) (by decide +kernel))
    · rw [if_neg (by decide)]; exact va_Nc.of (hs (.not (.castable RX0 RX1)) (by decide +kernel))
    · rw [if_neg (by decide)]; exact va_Nc.of (hs (.not (.castable RX0 RX7)) (by decide +kernel))
    · rw [if_neg (by decide)]; exact va_Nc.of (hs (.not (.castable RX0 RX6)) (by decide +kernel))
    · rw [if_pos (by decide)]; exact va_Nw.of rfl (hts _ t_ca_X0_X0)
    · rw [if_neg (by decide)]; exact va_Nc.of (hs (.not (.castable RX0 RX5)) (by decide +kernel))
    · rw [if_pos (by decide)]; exact va_Nw.of rfl (hts _ t_ca_X1_X9)
    · rw [if_pos (by decide)]; exact va_Nw.of rfl (hts _ t_ca_X1_X4)
    · rw [if_pos (by decide)]; exact va_Nw.of rfl (hts _ t_ca_X1_X1)
    · rw [if_neg (by decide)]; exact va_Nc.of (hs (.not (.castable RX1 RX7)) (by decide +kernel))
    · rw [if_neg (by decide)]; exact va_Nc.of (hs (.not (.castable RX1 RX6)) (by decide +kernel))
    · rw [if_neg (by decide)]; exact va_Nc.of (hs (.not (.castable RX1 RX0)) (by decide +kernel))
    · rw [if_neg (by decide)]; exact va_Nc.of (hs (.not (.castable RX1 RX5)) (by decide +kernel))
    · rw [if_pos (by decide)]; exact va_Nw.of rfl (hts _ t_ca_X3_X9)
    · rw [if_neg (by decide)]; exact va_Nc.of (hs (.not (.castable RX3 RX4)) (by decide +kernel))
    · rw [if_neg (by decide)]; exact va_Nc.of (hs (.not (.castable RX3 RX1)) (by decide +kernel))
    · rw [if_neg (by decide)]; exact va_Nc.of (hs (.not (.castable RX3 RX7)) (by decide +kernel))
    · rw [if_pos (by decide)]; exact va_Nw.of rfl (hts _ t_ca_X3_X6)
    · rw [if_neg (by decide)]; exact va_Nc.of (hs (.not (.castable RX3 RX0)) (by decide +kernel))
    · rw [if_neg (by decide)]; exact va_Nc.of (hs (.not (.castable RX3 RX5)) (by decide +kernel))
    · rw [if_pos (by decide)]; exact va_Nw.of rfl (hts _ t_ca_X4_X9)
    · rw [if_pos (by decide)]; exact va_Nw.of rfl (hts _ t_ca_X4_X4)
    · rw [if_neg (by decide)]; exact va_Nc.of (hs (.not (.castable RX4 RX1)) (by decide +kernel))
    · rw [if_neg (by decide)]; exact va_Nc.of (hs (.not (.castable RX4 RX7)) (by decide +kernel))
    · rw [if_neg (by decide)]; exact va_Nc.of (hs (.not (.castable RX4 RX6)) (by decide +kernel))
    · rw [if_neg (by decide)]; exact va_Nc.of (hs (.not (.castable RX4 RX0)) (by decide +kernel))
    · rw [if_neg (by decide)]; exact va_Nc.of (hs (.not (.castable RX4 RX5)) (by decide +kernel))
    · rw [if_pos (by decide)]; exact va_Nw.of rfl (hts _ t_ca_X5_X9)
    · rw [if_neg (by decide)]; exact va_Nc.of (hs (.not (.castable RX5 RX4)) (by decide +kernel))
    · rw [if_neg (by decide)]; exact va_Nc.of (hs (.not (.castable RX5 RX1)) (by decide +kernel))
    · rw [if_neg (by decide)]; exact va_Nc.of (hs (.not (.castable RX5 RX7)) (by decide +kernel))
    · rw [if_neg (by decide)]; exact va_Nc.of (hs (.not (.castable RX5 RX6)) (by decide +kernel))
    · rw [if_neg (by decide)]; exact va_Nc.of (hs (.not (.castable RX5 RX0)) (by decide +kernel))
    · rw [if_pos (by decide)]; exact va_Nw.of rfl (hts _ t_ca_X5_X5)
    · rw [if_pos (by decide)]; exact va_Nw.of rfl (hts _ t_ca_X7_X9)
    · rw [if_neg (by decide)]; exact va_Nc.of (hs (.not (.castable RX7 RX4)) (by decide +kernel))
    · rw [if_neg (by decide)]; exact va_Nc.of (hs (.not (.castable RX7 RX1)) (by decide +kernel))
    · rw [if_pos (by decide)]; exact va_Nw.of rfl (hts _ t_ca_X7_X7)
    · rw [if_neg (by decide)]; exact va_Nc.of (hs (.not (.castable RX7 RX6)) (by decide +kernel))
    · rw [if_neg (by decide)]; exact va_Nc.of (hs (.not (.castable RX7 RX0)) (by decide +kernel))
    · rw [if_neg (by decide)]; exact va_Nc.of (hs (.not (.castable RX7 RX5)) (by decide +kernel))
    · rw [if_pos (by decide)]; exact va_Nw.of rfl (hts _ t_ca_X8_X9)
    · rw [if_neg (by decide)]; exact va_Nc.of (hs (.not (.castable RX8 RX4)) (by decide +kernel))
    · rw [if_neg (by decide)]; exact va_Nc.of (hs (.not (.castable RX8 RX1)) (by decide +kernel))
    · rw [if_neg (by decide)]; exact va_Nc.of (hs (.not (.castable RX8 RX7)) (by decide +kernel))
    · rw [if_pos (by decide)]; exact va_Nw.of rfl (hts _ t_ca_X8_X6)
    · rw [if_neg (by decide)]; exact va_Nc.of (hs (.not (.castable RX8 RX0)) (by decide +kernel))
    · rw [if_neg (by decide)]; exact va_Nc.of (hs (.not (.castable RX8 RX5)) (by decide +kernel))
