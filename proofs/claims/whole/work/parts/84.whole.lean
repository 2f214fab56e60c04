set_option maxHeartbeats 4000000 in
theorem law_head (Γ : kGm) (hL : kLn Γ ≤ 384) : kG Γ mL_law room_1 (0, 0) 0 [some (.ref 0), none, none, none] [] w_0 (hZ Γ) := by
  refine nG.new (ci := 4) 1 w_1 (1, 11) 3 dL_law_0 (by decide) lL_7 nX4 iX4 rfl (by decide) rfl (fun _ => rfl) (fun _ => rfl) hdf4 ⟨by decide, by decide⟩ rfl rfl rfl ?_
  refine kG.dup 4 dL_law_3 rfl rfl ?_
  refine nG.callI (48, 2991) 7 dL_law_4 lL_9 vX4_init (i_X4_1 Γ) rfl rfl ⟨by decide, by decide⟩ (Nat.le_of_ble_eq_true rfl) ⟨by decide, by decide⟩ rfl rfl ?_
  refine kG.astore_n 8 dL_law_7 (by decide) rfl rfl ?_
  dsimp only [List.set]
  refine nG.new (ci := 5) 49 w_134 (49, 3027) 11 dL_law_8 (by decide) lL_10 nX5 iX5 rfl (by decide) rfl (fun _ => rfl) (fun _ => rfl) hdf5 ⟨by decide, by decide⟩ rfl rfl rfl ?_
  refine kG.dup 12 dL_law_11 rfl rfl ?_
  refine nG.callI (73, 3428) 15 dL_law_12 lL_12 vX5_init (i_X5_49 Γ) rfl rfl ⟨by decide, by decide⟩ (Nat.le_of_ble_eq_true rfl) ⟨by decide, by decide⟩ rfl rfl ?_
  refine kG.astore_n 16 dL_law_15 (by decide) rfl rfl ?_
  dsimp only [List.set]
  refine kG.iconst (v := nI 0) 17 dL_law_16 (by decide) rfl ?_
  refine kG.istore_n 18 dL_law_17 (by decide) rfl rfl ?_
  dsimp only [List.set]
  refine kG.same (ω' := kW w_186.2.1 q0) rfl (fun k hk => ent_same Γ hk) ?_
  exact law_loop Γ hL (kLn Γ + 1) 0 S0 _ q0 (by omega) (by decide) CS_0 MS_0
def dC6 (c0 c1 c2 c3 c4 c5 : ClassId) (k : Nat) : ClassId := match k with
  | 0 => c0
  | 1 => c1
  | 2 => c2
  | 3 => c3
  | 4 => c4
  | _ => c5
def dI6 (c0 c1 c2 c3 c4 c5 : Nat → Nat) (k : Nat) : Nat → Nat := match k with
  | 0 => c0
  | 1 => c1
  | 2 => c2
  | 3 => c3
  | 4 => c4
  | _ => c5
def dA3 (c0 c1 c2 : ClassId) (k : Nat) : ClassId := match k with
  | 0 => c0
  | 1 => c1
  | _ => c2
theorem tb_i {w : Cond} (i : Nat) (h : lw_tbl[i]? = some w) : w ∈ lw_tbl := List.mem_of_getElem? h
set_option maxHeartbeats 4000000 in
theorem whole_start {p : Program} {e : Env} {s : State} {m : MethodId} {below : List Frame} {meth : Method} {c : Code} (l : Launch) {b L : Nat} {xs : Nat → Int32} (hL : L ≤ 384) (C0 : lw_At p s m meth c b L xs) : W p l e room_1 s m #[Value.ref b] below meth c s.heap [] 0 0 (lw_Z below #[Value.ref b] s) (entryFrame m ([Value.ref b] : List Value).toArray 4) := by
  obtain ⟨hx, hb, hr, hml, hown, hts, hX, hbl, hlocks, hgv⟩ := C0
  have ht2 : ∀ w ∈ kTS, w.before #[Value.ref b] s = true := fun w hw => hts w (List.mem_filter.mp hw).1
  obtain ⟨c0, i0, h0⟩ := u_known (C := RX0) (T := TX0) (N := 5) (n := 5) ht2 kin0 (ht2 _ nX0)
  obtain ⟨c1, i1, h1⟩ := u_known (C := RX1) (T := TX1) (N := 3) (n := 3) ht2 kin1 (ht2 _ nX1)
  obtain ⟨c2, i2, h2⟩ := u_known (C := RX2) (T := TX2) (N := 12) (n := 12) ht2 kin2 (ht2 _ nX2)
  obtain ⟨c3, i3, h3⟩ := u_known (C := RX3) (T := TX3) (N := 12) (n := 12) ht2 kin3 (ht2 _ nX3)
  obtain ⟨c4, i4, h4⟩ := u_known (C := RX4) (T := TX4) (N := 11) (n := 11) ht2 kin4 (ht2 _ nX4)
  obtain ⟨c5, i5, h5⟩ := u_known (C := RX5) (T := TX5) (N := 36) (n := 36) ht2 kin5 (ht2 _ nX5)
  obtain ⟨a0, k0, p0, e0, f0, g0⟩ := Cond.arrayClass_spec (type := .int) (ht2 _ karr_i)
  obtain ⟨a1, k1, p1, e1, f1, g1⟩ := Cond.arrayClass_spec (type := .boolean) (ht2 _ karr_z)
  have hao : (Cond.arrayOver (.object RX1)).before #[Value.ref b] s = true := hts _ (tb_i 77 (by decide +kernel))
  obtain ⟨p2, a2, k2, d2, -, f2, g2, e2⟩ := Cond.arrayOver_spec hao
  have K2 : kKS (l, (dC6 c0 c1 c2 c3 c4 c5, dI6 i0 i1 i2 i3 i4 i5), dA3 a0 a1 a2, b, s.heap.size - 1, L, xs) s := by
    refine ⟨⟨fun c q hq => ?_, fun k q hq => ?_⟩, va_Nw.of rfl (hts kN1 (tb_i 107 (by decide +kernel))), va_Nw.of rfl (hts kN2 (tb_i 214 (by decide +kernel))), va_Nw.of rfl (hts kN3 (tb_i 408 (by decide +kernel))), va_AO.of hao⟩
    · match c, hq with
      | 0, hq => cases hq; exact h0
      | 1, hq => cases hq; exact h1
      | 2, hq => cases hq; exact h2
      | 3, hq => cases hq; exact h3
      | 4, hq => cases hq; exact h4
      | 5, hq => cases hq; exact h5
      | c + 6, hq => simp [vwCl] at hq
    · match k, hq with
      | 0, hq => cases hq; exact ⟨fun n z => ⟨(fun k h => by cases h), k0, f0, p0, g0⟩, e0⟩
      | 1, hq => cases hq; exact ⟨fun n z => ⟨(fun k h => by cases h), k1, f1, p1, g1⟩, e1⟩
      | 2, hq => cases hq; exact ⟨fun n z => ⟨(fun k h => by cases h), k2, f2, p2, g2⟩, k2, p2, f2, g2, d2, e2⟩
      | k + 3, hq => simp [kty] at hq
  have hl := lv_entry ([.ref b]) (n := 4) (Nat.le_of_ble_eq_true rfl)
  rw [lg_entry_eq]
  generalize (lg_sl ([.ref b]) ++ List.replicate (4 - (lg_sl ([.ref b])).length) Slot.unset).toArray = ls at hl ⊢
  have hl : lv_has ls 4 [(0, .ref b)] := hl
  have K := law_head (l, (dC6 c0 c1 c2 c3 c4 c5, dI6 i0 i1 i2 i3 i4 i5), dA3 a0 a1 a2, b, s.heap.size - 1, L, xs) hL p e s m #[Value.ref b] below meth c s.heap [] ls
    ⟨hx, hb, hr, hml, hown, ht2, hlocks, fun z => absurd z (by decide), K2, by show s.heap.size - 1 < s.heap.size; omega, fun _ => ⟨hX, hbl, by show b ≤ s.heap.size - 1; omega⟩⟩
    ⟨by decide, fun _ => by show s.heap.size = s.heap.size - 1 + 1; omega, fun k q hq => by cases hq⟩ va_S.rf
    ⟨hl.1, hl.2.1, fun k v hk => by
      match k, hk with
      | 0, hk => cases hk; exact hl.2.2 (0, .ref b) (List.mem_cons_self)
      | 1, hk => cases hk
      | 2, hk => cases hk
      | 3, hk => cases hk
      | k + 4, hk => cases hk⟩
  intro T hT X
  obtain ⟨t, a, d⟩ := K T hT X
  exact ⟨t, a, d (by show s.heap.size ≤ s.heap.size - 1 + 1; omega)⟩
