/-! NEW OBJECTS ARE IN THE LAW'S STATE -/
/-- the class as its constructor leaves it, at b -/
def zFr (b : Nat) (w : zW) : Prop := ∀ (k : Nat) (c : zC), (zX8c b)[k]? = some c → w.2 (b + k) = some c
/-- the reference as its constructor leaves it, at c -/
def zFm (c : Nat) (w : zW) : Prop := ∀ (k : Nat) (d : zC), (zX9c c)[k]? = some d → w.2 (c + k) = some d
theorem zls_fr (w00 : zW) (b : Nat) (x : zC) : zFr b (z_ls w00 b (zX8c b ++ zX9c (b + 32) ++ [x])) := fun k c h => by
  have hlt := (List.getElem?_eq_some_iff.mp h).1
  refine zl_at ?_
  rw [List.append_assoc, List.getElem?_append_left hlt]
  exact h
theorem zls_fm (w00 : zW) (b : Nat) (x : zC) : zFm (b + 32) (z_ls w00 b (zX8c b ++ zX9c (b + 32) ++ [x])) := fun k c h => by
  have hlt := (List.getElem?_eq_some_iff.mp h).1
  rw [Nat.add_assoc]
  refine zl_at ?_
  have h8 : (zX8c b).length = 32 := rfl
  rw [List.append_assoc, List.getElem?_append_right (by omega), h8, Nat.add_sub_cancel_left, List.getElem?_append_left hlt]
  exact h
theorem zls_fo (w00 : zW) (b : Nat) (x : zC) : (z_ls w00 b (zX8c b ++ zX9c (b + 32) ++ [x])).2 (b + 53) = some x := zl_at rfl
theorem z_00 : 0 ≤ (0 : Int32).toInt ∧ (0 : Int32).toInt ≤ 32 := by decide
theorem zRo.new {w : zW} {r an al ab cap : Nat} (h0 : w.2 r = some (.inr (6, [.int (nI cap), .ref an, .ref al, .ref ab, .int 0]))) (h1 : w.2 an = some (.inl (0, cap, .inl (fun _ => 0)))) (h2 : w.2 al = some (.inl (0, cap, .inl (fun _ => 0)))) (h3 : w.2 ab = some (.inl (0, cap * 32, .inl (fun _ => 0)))) (hd : r ≠ an ∧ r ≠ al ∧ r ≠ ab ∧ an ≠ al ∧ an ≠ ab ∧ al ≠ ab) (hc : cap ≤ 1600) : zRo w r an al ab cap 0 (fun _ => 0) (fun _ => 0) (fun _ => 0) :=
  ⟨⟨h0, h1, h2, h3⟩, hd, hc, ⟨by decide, by rw [zi_0]; omega⟩, fun _ _ => z_00⟩
theorem zCl.new {b : Nat} {w : zW} (h : zFr b w) : zCl b w 2 0 0 (fun _ => 0) := by
  refine ⟨⟨0, 8, 0, 0, -1, 0, b + 30, b + 31, h 0 _ rfl, ⟨by decide, by decide, by decide, by decide, Or.inl ⟨rfl, rfl⟩⟩⟩, ?_, ?_, ?_, ?_, ?_, ?_, ?_, ?_, ?_, ?_, ?_, ?_⟩
  · exact ⟨0, _, _, _, zRo.new (h 1 _ rfl) (h 2 _ rfl) (h 3 _ rfl) (h 4 _ rfl) (by omega) (by omega)⟩
  · exact ⟨_, _, zRo.new (h 10 _ rfl) (h 11 _ rfl) (h 12 _ rfl) (h 13 _ rfl) (by omega) (by omega)⟩
  · exact ⟨0, ⟨_, _, _, _, h 5 _ rfl, h 6 _ rfl, h 7 _ rfl, h 8 _ rfl, h 9 _ rfl⟩, by decide, by decide⟩
  · exact ⟨0, 0, 0, ⟨_, _, _, _, h 14 _ rfl, h 15 _ rfl, h 16 _ rfl, h 17 _ rfl, h 18 _ rfl, fun _ _ => by decide, fun _ _ => by decide⟩, by decide, by decide, Or.inl rfl⟩
  · exact ⟨_, _, _, h 19 _ rfl⟩
  · exact ⟨⟨_, _, _, h 20 _ rfl, h 21 _ rfl, h 22 _ rfl, h 23 _ rfl, fun _ _ => by decide⟩, by decide, by decide⟩
  · exact ⟨_, _, _, h 24 _ rfl⟩
  · exact ⟨_, _, _, h 25 _ rfl⟩
  · exact ⟨_, _, _, h 26 _ rfl, h 27 _ rfl, h 28 _ rfl, fun _ _ => by decide⟩
  · exact ⟨_, h 29 _ rfl⟩
  · exact ⟨_, _, _, _, _, h 30 _ rfl⟩
  · exact ⟨_, _, _, _, _, h 31 _ rfl⟩
def zs0 (k : Nat) : Int32 := if k = 1 then 8 else if k = 2 then 2 else if k = 13 then 4 else if k = 33 then -1 else 0
theorem zMo.new {c : Nat} {w : zW} (h : zFm c w) : zMo c w zs0 (fun _ _ => 0) := by
  refine ⟨h 0 _ rfl, fun k h1 h2 => ?_, ⟨by decide, fun j hj => ?_⟩, ⟨by decide, fun _ _ => z_00⟩, ⟨by decide, by decide, fun _ _ => show 0 ≤ (0 : Int32).toInt ∧ 0 ≤ (0 : Int32).toInt ∧ (0 : Int32).toInt + (0 : Int32).toInt ≤ 32 by decide⟩, ⟨by decide, fun j hj => ?_⟩, fun i hi => ⟨show 0 ≤ (0 : Int32).toInt ∧ (0 : Int32).toInt ≤ 200 by decide, fun k hk => ?_⟩, fun j hj => show (0 ≤ (0 : Int32).toInt ∧ (0 : Int32).toInt ≤ 32) ∧ (0 ≤ (0 : Int32).toInt ∧ (0 : Int32).toInt < 1600) ∧ (0 ≤ (0 : Int32).toInt ∧ (0 : Int32).toInt < 1600) by decide, ⟨by decide, by decide, by decide, by decide, by decide, fun _ => by decide, Or.inl rfl⟩⟩
  · rcases (show k = 1 ∨ k = 2 ∨ k = 3 ∨ k = 4 ∨ k = 5 ∨ k = 6 ∨ k = 7 ∨ k = 8 ∨ k = 9 ∨ k = 10 ∨ k = 11 ∨ k = 12 ∨ k = 13 ∨ k = 14 ∨ k = 15 ∨ k = 16 ∨ k = 17 ∨ k = 18 ∨ k = 19 ∨ k = 20 by omega) with rfl | rfl | rfl | rfl | rfl | rfl | rfl | rfl | rfl | rfl | rfl | rfl | rfl | rfl | rfl | rfl | rfl | rfl | rfl | rfl
    all_goals exact h _ _ rfl
  · have e : (zs0 8).toInt = 0 := by decide
    rw [e] at hj
    omega
  · have e : (zs0 22).toInt = 0 := by decide
    rw [e] at hj
    omega
  · have e : (k : Int) < (0 : Int32).toInt := hk
    rw [zi_0] at e
    omega
theorem zLs.new {b : Nat} {w : zW} (hF : zFr b w) (hM : zFm (b + 32) w) (hO : zO b w) (hw : b + 54 ≤ w.1) : zLs b w :=
  ⟨2, 0, 0, fun _ => 0, zs0, fun _ _ => 0, zCl.new hF, zMo.new hM, hO, hw, rfl, rfl, rfl, fun j _ => by split <;> rfl⟩
/-! THE LAW FROM ITS ENTRY -/
theorem z_nestT : ∀ q ∈ z_nest, Cond.methodLinkNest q.1 q.2.1 q.2.2 "SortMerge" ∈ lw_tbl := by decide +kernel
theorem z_strT : ∀ q ∈ z_strs, Cond.stringRef "SortMerge" q.1 q.2 ∈ lw_tbl := by decide +kernel
theorem z_wlA : ∀ x ∈ va_wsS RL 31 yL_area wsLA, x ∈ lw_tbl := by decide +kernel
theorem z_lsK : Cond.laysStatic "SortMerge$Keys" "MOST_SIZES" "[I" ∈ lw_tbl := by decide +kernel
theorem z_lsU : Cond.laysStatic Bundle.tN "UNASSIGNED_STACK" Bundle.steD ∈ lw_tbl := by decide +kernel
theorem z_lsN : Cond.laysStatic Bundle.tN "SUPPRESSED_SENTINEL" Bundle.listD ∈ lw_tbl := by decide +kernel
theorem z_inT : Cond.initialized Bundle.tN ∈ lw_tbl := by decide +kernel
theorem z_inK : Cond.initialized "SortMerge$Keys" ∈ lw_tbl := by decide +kernel
def R_law : String := "SortMergeLaw"
def lw_At (p : Program) (s : State) (m : MethodId) (meth : Method) (c : Code) (b L : Nat) (xs : Nat → Int32) : Prop :=
  p.tables.exec = Jvm.exec ∧ c.code = code ∧ meth.sig.returnType = ret ∧ c.maxLocals = 7 ∧ s.vm.findClass R_law = some m.cls ∧ (∀ w ∈ lw_tbl, w.before #[Value.ref b] s = true) ∧ va_X b L xs s s.heap ∧ b < s.heap.size ∧ meth.locks = false ∧ (Jvm.Cond.and given_1 narrow_1).before #[Value.ref b] s = true
theorem z_iw {w : Cond} (h : w ∈ wsL_law) : w ∈ lw_tbl := wsL_law_in w h
set_option maxRecDepth 100000 in
set_option maxHeartbeats 2000000 in
theorem z_beginK {p : Program} {s : State} {m : MethodId} {meth : Method} {c : Code} {b L : Nat} {xs : Nat → Int32} (C0 : lw_At p s m meth c b L xs) : ∃ D : va_G, ∀ (k : Nat) (q : vw_C), vwCl[k]? = some q → u_Kn s q.1 q.2.1 q.2.2 (D.1 k) (D.2 k) := by
  obtain ⟨hx, hb, hr, hml, hown, hts, hX, hbl, hlk, hgv⟩ := C0
  obtain ⟨c0, i0, k0⟩ := u_known (C := RJxde1cd) (T := TJxde1cd) (N := 6) (n := 6) hts wl_wsJxde1cd0 (hts (.instantiable RJxde1cd 6) (z_iw (by decide +kernel)))
  obtain ⟨c1, i1, k1⟩ := u_known (C := RX0) (T := TX0) (N := 3) (n := 3) hts wl_wsX00 (hts (.instantiable RX0 3) (z_iw (by decide +kernel)))
  obtain ⟨c2, i2, k2⟩ := u_known (C := RX1) (T := TX1) (N := 3) (n := 3) hts wl_wsX10 (hts (.instantiable RX1 3) (z_iw (by decide +kernel)))
  obtain ⟨c3, i3, k3⟩ := u_known (C := RX2) (T := TX2) (N := 3) (n := 3) hts wl_wsX20 (hts (.instantiable RX2 3) (z_iw (by decide +kernel)))
  obtain ⟨c4, i4, k4⟩ := u_known (C := RX3) (T := TX3) (N := 5) (n := 5) hts wl_wsX30 (hts (.instantiable RX3 5) (z_iw (by decide +kernel)))
  obtain ⟨c5, i5, k5⟩ := u_known (C := RX4) (T := TX4) (N := 9) (n := 9) hts wl_wsX40 (hts (.instantiable RX4 9) (z_iw (by decide +kernel)))
  obtain ⟨c6, i6, k6⟩ := u_known (C := RX5) (T := TX5) (N := 5) (n := 5) hts wl_wsX50 (hts (.instantiable RX5 5) (z_iw (by decide +kernel)))
  obtain ⟨c7, i7, k7⟩ := u_known (C := RX6) (T := TX6) (N := 4) (n := 4) hts wl_wsX60 (hts (.instantiable RX6 4) (z_iw (by decide +kernel)))
  obtain ⟨c8, i8, k8⟩ := u_known (C := RX7) (T := TX7) (N := 5) (n := 5) hts wl_wsX70 (hts (.instantiable RX7 5) (z_iw (by decide +kernel)))
  obtain ⟨c9, i9, k9⟩ := u_known (C := RX8) (T := TX8) (N := 19) (n := 19) hts wl_wsX80 (hts (.instantiable RX8 19) (z_iw (by decide +kernel)))
  obtain ⟨c10, i10, k10⟩ := u_known (C := RX9) (T := TX9) (N := 36) (n := 36) hts wl_wsX90 (hts (.instantiable RX9 36) (z_iw (by decide +kernel)))
  refine ⟨(fun k => match k with
    | 0 => c0
    | 1 => c1
    | 2 => c2
    | 3 => c3
    | 4 => c4
    | 5 => c5
    | 6 => c6
    | 7 => c7
    | 8 => c8
    | 9 => c9
    | _ => c10, fun k => match k with
    | 0 => i0
    | 1 => i1
    | 2 => i2
    | 3 => i3
    | 4 => i4
    | 5 => i5
    | 6 => i6
    | 7 => i7
    | 8 => i8
    | 9 => i9
    | _ => i10), ?_⟩
  intro k q hq
  match k, hq with
  | 0, hq => cases hq; exact k0
  | 1, hq => cases hq; exact k1
  | 2, hq => cases hq; exact k2
  | 3, hq => cases hq; exact k3
  | 4, hq => cases hq; exact k4
  | 5, hq => cases hq; exact k5
  | 6, hq => cases hq; exact k6
  | 7, hq => cases hq; exact k7
  | 8, hq => cases hq; exact k8
  | 9, hq => cases hq; exact k9
  | 10, hq => cases hq; exact k10
  | k + 11, hq => simp at hq
set_option maxRecDepth 100000 in
set_option maxHeartbeats 2000000 in
theorem z_beginA {p : Program} {s : State} {m : MethodId} {meth : Method} {c : Code} {b L : Nat} {xs : Nat → Int32} (C0 : lw_At p s m meth c b L xs) : ∃ cA : Nat → ClassId, ∀ (k : Nat) (q : ClassId × FieldType), ([(cA 0, .int), (cA 1, .boolean), (cA 2, .long)] : List (ClassId × FieldType))[k]? = some q → ArrOfT s q.1 q.2 ∧ va_RA s q.1 q.2 := by
  obtain ⟨hx, hb, hr, hml, hown, hts, hX, hbl, hlk, hgv⟩ := C0
  obtain ⟨ai, ki, ci, i1, i2, i3⟩ := Cond.arrayClass_spec (hts (.arrayClass .int) (z_iw (by decide +kernel)))
  obtain ⟨az, kz, cz, z1, z2, z3⟩ := Cond.arrayClass_spec (hts (.arrayClass .boolean) (z_iw (by decide +kernel)))
  obtain ⟨al, kl, cl, l1, l2, l3⟩ := Cond.arrayClass_spec (hts (.arrayClass .long) (z_iw (by decide +kernel)))
  refine ⟨fun k => match k with
    | 0 => ai
    | 1 => az
    | _ => al, ?_⟩
  intro k q hq
  match k, hq with
  | 0, hq => cases hq; exact ⟨fun n z => ⟨fun k h => (by cases h), ki, i2, ci, i3⟩, i1⟩
  | 1, hq => cases hq; exact ⟨fun n z => ⟨fun k h => (by cases h), kz, z2, cz, z3⟩, z1⟩
  | 2, hq => cases hq; exact ⟨fun n z => ⟨fun k h => (by cases h), kl, l2, cl, l3⟩, l1⟩
  | k + 3, hq => simp at hq
set_option maxRecDepth 100000 in
set_option maxHeartbeats 2000000 in
theorem z_beginS {p : Program} {s : State} {m : MethodId} {meth : Method} {c : Code} {b L : Nat} {xs : Nat → Int32} (C0 : lw_At p s m meth c b L xs) (l : Launch) (hl : l.stackTraces = false) (D : va_G) (cA : Nat → ClassId) : z_S (l, D, cA, s.heap.size) s s.heap := by
  obtain ⟨hx, hb, hr, hml, hown, hts, hX, hbl, hlk, hgv⟩ := C0
  have hA : ∀ a : Nat, a < s.heap.size → ¬ z_A (l, D, cA, s.heap.size) a := fun a h1 h2 => Nat.not_le.mpr h1 h2
  have hs := flat_of_before _ hgv
  obtain ⟨t, ht, hT⟩ := va_Tof (tm := .static "SortMerge$Keys" "MOST_SIZES" "[I") (ty := .int) (N := 4) (f := fun j => .int (if j = 0 then 32 else if j = 1 then 8 else if j = 2 then 8 else 18)) (A := z_A (l, D, cA, s.heap.size)) (args := #[Value.ref b]) (s := s) (by decide)
    (hs _ (by decide +kernel)) (va_eqt (hs (Cond.eq (.length (.static "SortMerge$Keys" "MOST_SIZES" "[I")) (.int 4)) (by decide +kernel))) (fun j hj => by
      match j, hj with
      | 0, _ => exact va_eqt (hs (Cond.eq (.elem (.static "SortMerge$Keys" "MOST_SIZES" "[I") (.int 0)) (.int 32)) (by decide +kernel))
      | 1, _ => exact va_eqt (hs (Cond.eq (.elem (.static "SortMerge$Keys" "MOST_SIZES" "[I") (.int 1)) (.int 8)) (by decide +kernel))
      | 2, _ => exact va_eqt (hs (Cond.eq (.elem (.static "SortMerge$Keys" "MOST_SIZES" "[I") (.int 2)) (.int 8)) (by decide +kernel))
      | 3, _ => exact va_eqt (hs (Cond.eq (.elem (.static "SortMerge$Keys" "MOST_SIZES" "[I") (.int 3)) (.int 18)) (by decide +kernel))) hA
  refine ⟨⟨t, va_Zref (hts _ z_lsK) (hts _ z_inK) ht hA, hT⟩, vx_Zqof (hts _ z_lsU) (hts _ z_inT) (hs _ (by decide +kernel)) hA, vx_Zqof (hts _ z_lsN) (hts _ z_inT) (hs _ (by decide +kernel)) hA, hl, fun q hq => va_Nw.of rfl (hts _ (z_nestT q hq)), fun q hq => ?_⟩
  obtain ⟨c9, -, hc9, -⟩ := Cond.instantiable_spec (hts (.instantiable RX8 19) (z_iw (by decide +kernel)))
  obtain ⟨k, cf, i, a, -, -, -, -, -, he⟩ := Cond.stringRef_spec (args := #[Value.ref b]) (first := s) (o := none) (s := s) (idx := []) hc9 (hts _ (z_strT q hq))
  exact ⟨a, vk_R.of (hts _ (z_strT q hq)) he⟩
set_option maxRecDepth 100000 in
set_option maxHeartbeats 2000000 in
theorem law_all {G : zG} {Γ : zΓ} {P : Option Value → zW → Prop} {nm : String} {sb L : Nat} {xs : Nat → Int32} {b : Nat} (w00 : zW) (C : z_X G cL_law RL wsL_law 7 Γ) (E : z_E G room_1 601024 7293034 nm (some .boolean) P Γ) (hP : ∀ w, P (some (.int 1)) w) (hX : va_X sb L xs (zs Γ) (zs Γ).heap) (hbl : sb < (zs Γ).heap.size) (hbA : ¬ z_A G sb) (hL : L ≤ 2560) (hG : G.2.2.2 = b) (hts' : ∀ x ∈ va_wsS RL 31 yL_area wsLA, x.before (za Γ) (zs Γ) = true) :
    z_J G 7 Γ (z_ls w00 b []) 0 0 0 [some (.ref sb), none, none, none, none, none, none] [] := by
  have hb1 : ∀ n, G.2.2.2 ≤ b + n := fun n => by rw [hG]; exact Nat.le_add_right _ _
  have hb0 : G.2.2.2 ≤ b := Nat.le_of_eq hG
  refine z_new (ci := 9) (fs := [.null, .null, .null, .null, .null, .null, .null, .null, .null, .null, .int 0, .int 0, .int 0, .int 0, .int 0, .int 0, .int 0, .null, .null]) (Cn := RX8) (T := TX8) (N := 19) C E tyX8 inlX8 tyX8_ok (by decide +kernel) (by decide +kernel) (by decide +kernel) rfl dfX8 (hb1 _) ⟨Nat.le_of_ble_eq_true rfl, Nat.le_of_ble_eq_true rfl⟩ dL_law_0 ?_
  simp only [zl_nw, zl_1, List.nil_append, List.length_nil, Nat.add_zero]
  refine z_gn C E tkL_law (Nat.le_of_ble_eq_true rfl) (Nat.le_of_ble_eq_true rfl) [] 60 ?_
  simp only [↓z_rn_f, ↓z_rn_t, ↓z_rn_0, ↓zr_in0, ↓zr_ins, ↓zr_inn, ↓zr_bt, ↓zr_bf, ↓zr_li0, ↓zr_lis, ↓zr_la0, ↓zr_las, ↓zr_ll0, ↓zr_lls, ↓zr_1i, ↓zr_1l, ↓zr_1a, ↓zr_2i, ↓zr_2l, ↓zr_lsi, ↓zr_ia, ↓zr_aa, ↓zr_dia, ↓zr_iia, ↓zr_lia, ↓zr_d1i, ↓zr_d1r, ↓zr_e1, ↓zr_e2, ↓zr_e0, ↓zr_f0, ↓zr_fs, ↓zr_s0, ↓zr_ss, ↓zr_len, ↓zr_len0, ↓zr_ok0, ↓zr_okn, ↓zr_oki, ↓zr_okr, ↓zr_oks, ↓zr_tt, ↓zr_ar0u, ↓zr_ar0n, ↓zr_ar1u, ↓zr_ar1n, ↓zr_ar2u, ↓zr_ar2n, ↓zr_obu, ↓zr_obn, ↓Nat.reduceAdd, Nat.reduceEqDiff, Nat.add_left_cancel_iff, not_false_eq_true, z_up_up, true_and, ↓sL_law_0, ↓sL_law_3, ↓sL_law_4, ↓sL_law_7, ↓sL_law_8, ↓sL_law_11, ↓sL_law_12, ↓sL_law_15, ↓sL_law_16, ↓sL_law_17, ↓sL_law_19, ↓sL_law_20, ↓sL_law_21, ↓sL_law_23, ↓sL_law_25, ↓sL_law_26, ↓sL_law_27, ↓sL_law_28, ↓sL_law_29, ↓sL_law_32, ↓sL_law_33, ↓sL_law_35, ↓sL_law_36, ↓sL_law_38, ↓sL_law_39, ↓sL_law_124, ↓sL_law_125, ↓sL_law_126, ↓sL_law_128, ↓sL_law_129, ↓sL_law_130, ↓sL_law_131, ↓sL_law_132, ↓sL_law_135, ↓sL_law_137, ↓sL_law_138, ↓sL_law_139, ↓sL_law_141, ↓sL_law_142, ↓sL_law_143, ↓sL_law_144, ↓sL_law_147, ↓sL_law_149, ↓sL_law_152, ↓sL_law_153, ↓sL_law_154, ↓sL_law_156, ↓sL_law_157, ↓sL_law_158, ↓sL_law_159, ↓sL_law_162, ↓sL_law_163, ↓sL_law_164, ↓sL_law_165, ↓sL_law_167, ↓sL_law_168, ↓sL_law_169, ↓sL_law_170, ↓sL_law_173, ↓sL_law_174, ↓sL_law_177, ↓sL_law_178, ↓sL_law_179, ↓sL_law_181, ↓sL_law_182, ↓sL_law_183, ↓sL_law_184, ↓sL_law_185, ↓sL_law_187, ↓sL_law_188, ↓sL_law_189, ↓sL_law_190, ↓sL_law_191, ↓sL_law_193, ↓sL_law_194, ↓sL_law_195, ↓sL_law_196, ↓sL_law_197, ↓sL_law_199, ↓sL_law_200, ↓sL_law_201, ↓sL_law_202, ↓sL_law_205, ↓sL_law_206, ↓sL_law_209, ↓sL_law_210, ↓sL_law_213, ↓sL_law_214, ↓sL_law_215, ↓sL_law_216, ↓sL_law_218, ↓sL_law_219, ↓sL_law_220, ↓sL_law_221, ↓sL_law_222, ↓sL_law_224, ↓sL_law_225, ↓sL_law_226, ↓sL_law_227, ↓sL_law_228, ↓sL_law_230, ↓sL_law_231, ↓sL_law_232, ↓sL_law_233, ↓sL_law_234, ↓sL_law_236, ↓sL_law_237, ↓sL_law_238, ↓sL_law_239, ↓sL_law_242, ↓sL_law_243, ↓sL_law_246, ↓sL_law_247, ↓sL_law_250, ↓sL_law_251, ↓sL_law_254, ↓sL_law_255, ↓sL_law_258, ↓sL_law_259, ↓sL_law_260, ↓sL_law_263, ↓sL_law_264, ↓sL_law_267, ↓sL_law_268, ↓sL_law_269, ↓sL_law_271, ↓sL_law_272, ↓sL_law_273, ↓sL_law_274, ↓sL_law_275, ↓sL_law_277, ↓sL_law_278, ↓sL_law_279, ↓sL_law_280, ↓sL_law_281, ↓sL_law_283, ↓sL_law_284, ↓sL_law_285, ↓sL_law_286, ↓sL_law_289, ↓sL_law_290, ↓sL_law_291, ↓sL_law_292, ↓sL_law_294, ↓sL_law_295, ↓sL_law_296, ↓sL_law_297, ↓sL_law_298, ↓sL_law_300, ↓sL_law_301, ↓sL_law_302, ↓sL_law_303, ↓sL_law_304, ↓sL_law_306, ↓sL_law_307, ↓sL_law_308, ↓sL_law_309, ↓sL_law_312, ↓sL_law_313, ↓sL_law_316, ↓sL_law_317, ↓sL_law_318, ↓sL_law_320, ↓sL_law_321, ↓sL_law_322, ↓sL_law_323, ↓sL_law_324, ↓sL_law_326, ↓sL_law_327, ↓sL_law_328, ↓sL_law_329, ↓sL_law_330, ↓sL_law_332, ↓sL_law_333, ↓sL_law_334, ↓sL_law_335, ↓sL_law_338, ↓sL_law_339, ↓sL_law_340, ↓sL_law_341, ↓sL_law_343, ↓sL_law_344, ↓sL_law_345, ↓sL_law_346, ↓sL_law_347, ↓sL_law_349, ↓sL_law_350, ↓sL_law_351, ↓sL_law_352, ↓sL_law_353, ↓sL_law_355, ↓sL_law_356, ↓sL_law_357, ↓sL_law_358, ↓sL_law_361, ↓sL_law_362, ↓sL_law_365, ↓sL_law_366, ↓sL_law_367, ↓sL_law_369, ↓sL_law_370, ↓sL_law_371, ↓sL_law_372, ↓sL_law_373, ↓sL_law_375, ↓sL_law_376, ↓sL_law_377, ↓sL_law_378, ↓sL_law_381, ↓sL_law_382, ↓sL_law_383, ↓sL_law_384, ↓sL_law_386, ↓sL_law_387, ↓sL_law_388, ↓sL_law_389, ↓sL_law_390, ↓sL_law_392, ↓sL_law_393, ↓sL_law_394, ↓sL_law_395, ↓sL_law_398, ↓sL_law_399, ↓sL_law_402, ↓sL_law_403, ↓sL_law_404, ↓sL_law_406, ↓sL_law_407, ↓sL_law_408, ↓sL_law_409, ↓sL_law_410, ↓sL_law_412, ↓sL_law_413, ↓sL_law_414, ↓sL_law_415, ↓sL_law_416, ↓sL_law_418, ↓sL_law_419, ↓sL_law_420, ↓sL_law_421, ↓sL_law_424, ↓sL_law_425, ↓sL_law_426, ↓sL_law_428, ↓sL_law_429, ↓sL_law_430, ↓sL_law_431, ↓sL_law_432, ↓sL_law_434, ↓sL_law_435, ↓sL_law_436, ↓sL_law_437, ↓sL_law_438, ↓sL_law_440, ↓sL_law_441, ↓sL_law_442, ↓sL_law_443, ↓sL_law_446, ↓sL_law_449, ↓sL_law_450, ↓sL_law_451, ↓sL_law_452, ↓sL_law_455, ↓sL_law_456, ↓sL_law_457, ↓sL_law_460, ↓sL_law_461, ↓sL_law_464, ↓sL_law_465, ↓sL_law_466, ↓sL_law_468, ↓sL_law_469, ↓sL_law_470, ↓sL_law_471, ↓sL_law_474, ↓sL_law_475, ↓sL_law_476, ↓sL_law_477, ↓sL_law_479, ↓sL_law_480, ↓sL_law_481, ↓sL_law_482, ↓sL_law_485, ↓sL_law_486, ↓sL_law_489, ↓sL_law_490, ↓sL_law_491, ↓sL_law_493, ↓sL_law_494, ↓sL_law_495, ↓sL_law_496, ↓sL_law_499, ↓sL_law_500, ↓sL_law_503, ↓sL_law_504, ↓sL_law_505, ↓sL_law_508, ↓sL_law_510, ↓sL_law_511, ↓sL_law_512, ↓sL_law_514, ↓sL_law_515, ↓sL_law_516, ↓sL_law_517, ↓sL_law_520, ↓sL_law_521, ↓sL_law_524, ↓sL_law_525, ↓sL_law_528, ↓sL_law_530, ↓sL_law_533, ↓sL_law_534, ↓sL_law_537, ↓sL_law_538, ↓sL_law_539, ↓sL_law_542, ↓sL_law_543, ↓sL_law_546, ↓sL_law_547, ↓sL_law_548, ↓sL_law_550, ↓sL_law_551, ↓sL_law_552, ↓sL_law_553, ↓sL_law_556, ↓sL_law_557, ↓sL_law_558, ↓sL_law_559, ↓sL_law_561, ↓sL_law_562, ↓sL_law_563, ↓sL_law_564, ↓sL_law_567, ↓sL_law_568, ↓sL_law_571, ↓sL_law_572, ↓sL_law_573, ↓sL_law_575, ↓sL_law_576, ↓sL_law_577, ↓sL_law_578, ↓sL_law_579, ↓sL_law_581, ↓sL_law_582, ↓sL_law_583, ↓sL_law_584, ↓sL_law_587, ↓sL_law_588, ↓sL_law_589, ↓sL_law_590, ↓sL_law_592, ↓sL_law_593, ↓sL_law_594, ↓sL_law_595, ↓sL_law_596, ↓sL_law_598, ↓sL_law_599, ↓sL_law_600, ↓sL_law_601, ↓sL_law_604, ↓sL_law_605, ↓sL_law_608, ↓sL_law_609, ↓sL_law_612, ↓sL_law_613, ↓sL_law_614, ↓sL_law_617, ↓sL_law_618, ↓sL_law_621, ↓sL_law_622, ↓sL_law_623, ↓sL_law_625, ↓sL_law_626, ↓sL_law_627, ↓sL_law_628, ↓sL_law_629, ↓sL_law_631, ↓sL_law_632, ↓sL_law_633, ↓sL_law_634, ↓sL_law_635, ↓sL_law_638, ↓sL_law_640, ↓sL_law_641, ↓sL_law_642, ↓sL_law_644, ↓sL_law_645, ↓sL_law_646, ↓sL_law_647, ↓sL_law_648, ↓sL_law_650, ↓sL_law_651, ↓sL_law_652, ↓sL_law_653, ↓sL_law_656, ↓sL_law_658, ↓sL_law_661, ↓sL_law_662, ↓sL_law_665, ↓sL_law_666, ↓sL_law_667, ↓sL_law_670, ↓sL_law_671, ↓sL_law_674, ↓sL_law_675, ↓sL_law_676, ↓sL_law_678, ↓sL_law_679, ↓sL_law_680, ↓sL_law_681, ↓sL_law_684, ↓sL_law_685, ↓sL_law_686, ↓sL_law_687, ↓sL_law_689, ↓sL_law_690, ↓sL_law_691, ↓sL_law_692, ↓sL_law_695, ↓sL_law_696, ↓sL_law_699, ↓sL_law_702, ↓sL_law_705, ↓sL_law_706]
  refine z_callI (n := 0) (As := []) (rest := [.ref b]) C E (c_X8_init G w00 b hb0) gL_law_X8_init rfl rfl rfl (by decide +kernel) (by decide +kernel) (by decide +kernel) rfl (by decide +kernel) (by decide) dL_law_4 rfl ⟨Nat.le_of_ble_eq_true rfl, Nat.le_of_ble_eq_true rfl⟩ (Nat.le_of_ble_eq_true rfl) ?_
  rintro x w1 ⟨rfl, rfl⟩
  simp only [Option.toList, List.nil_append]
  refine z_gn C E tkL_law (Nat.le_of_ble_eq_true rfl) (Nat.le_of_ble_eq_true rfl) [] 60 ?_
  simp only [↓z_rn_f, ↓z_rn_t, ↓z_rn_0, ↓zr_in0, ↓zr_ins, ↓zr_inn, ↓zr_bt, ↓zr_bf, ↓zr_li0, ↓zr_lis, ↓zr_la0, ↓zr_las, ↓zr_ll0, ↓zr_lls, ↓zr_1i, ↓zr_1l, ↓zr_1a, ↓zr_2i, ↓zr_2l, ↓zr_lsi, ↓zr_ia, ↓zr_aa, ↓zr_dia, ↓zr_iia, ↓zr_lia, ↓zr_d1i, ↓zr_d1r, ↓zr_e1, ↓zr_e2, ↓zr_e0, ↓zr_f0, ↓zr_fs, ↓zr_s0, ↓zr_ss, ↓zr_len, ↓zr_len0, ↓zr_ok0, ↓zr_okn, ↓zr_oki, ↓zr_okr, ↓zr_oks, ↓zr_tt, ↓zr_ar0u, ↓zr_ar0n, ↓zr_ar1u, ↓zr_ar1n, ↓zr_ar2u, ↓zr_ar2n, ↓zr_obu, ↓zr_obn, ↓Nat.reduceAdd, Nat.reduceEqDiff, Nat.add_left_cancel_iff, not_false_eq_true, z_up_up, true_and, ↓sL_law_0, ↓sL_law_3, ↓sL_law_4, ↓sL_law_7, ↓sL_law_8, ↓sL_law_11, ↓sL_law_12, ↓sL_law_15, ↓sL_law_16, ↓sL_law_17, ↓sL_law_19, ↓sL_law_20, ↓sL_law_21, ↓sL_law_23, ↓sL_law_25, ↓sL_law_26, ↓sL_law_27, ↓sL_law_28, ↓sL_law_29, ↓sL_law_32, ↓sL_law_33, ↓sL_law_35, ↓sL_law_36, ↓sL_law_38, ↓sL_law_39, ↓sL_law_124, ↓sL_law_125, ↓sL_law_126, ↓sL_law_128, ↓sL_law_129, ↓sL_law_130, ↓sL_law_131, ↓sL_law_132, ↓sL_law_135, ↓sL_law_137, ↓sL_law_138, ↓sL_law_139, ↓sL_law_141, ↓sL_law_142, ↓sL_law_143, ↓sL_law_144, ↓sL_law_147, ↓sL_law_149, ↓sL_law_152, ↓sL_law_153, ↓sL_law_154, ↓sL_law_156, ↓sL_law_157, ↓sL_law_158, ↓sL_law_159, ↓sL_law_162, ↓sL_law_163, ↓sL_law_164, ↓sL_law_165, ↓sL_law_167, ↓sL_law_168, ↓sL_law_169, ↓sL_law_170, ↓sL_law_173, ↓sL_law_174, ↓sL_law_177, ↓sL_law_178, ↓sL_law_179, ↓sL_law_181, ↓sL_law_182, ↓sL_law_183, ↓sL_law_184, ↓sL_law_185, ↓sL_law_187, ↓sL_law_188, ↓sL_law_189, ↓sL_law_190, ↓sL_law_191, ↓sL_law_193, ↓sL_law_194, ↓sL_law_195, ↓sL_law_196, ↓sL_law_197, ↓sL_law_199, ↓sL_law_200, ↓sL_law_201, ↓sL_law_202, ↓sL_law_205, ↓sL_law_206, ↓sL_law_209, ↓sL_law_210, ↓sL_law_213, ↓sL_law_214, ↓sL_law_215, ↓sL_law_216, ↓sL_law_218, ↓sL_law_219, ↓sL_law_220, ↓sL_law_221, ↓sL_law_222, ↓sL_law_224, ↓sL_law_225, ↓sL_law_226, ↓sL_law_227, ↓sL_law_228, ↓sL_law_230, ↓sL_law_231, ↓sL_law_232, ↓sL_law_233, ↓sL_law_234, ↓sL_law_236, ↓sL_law_237, ↓sL_law_238, ↓sL_law_239, ↓sL_law_242, ↓sL_law_243, ↓sL_law_246, ↓sL_law_247, ↓sL_law_250, ↓sL_law_251, ↓sL_law_254, ↓sL_law_255, ↓sL_law_258, ↓sL_law_259, ↓sL_law_260, ↓sL_law_263, ↓sL_law_264, ↓sL_law_267, ↓sL_law_268, ↓sL_law_269, ↓sL_law_271, ↓sL_law_272, ↓sL_law_273, ↓sL_law_274, ↓sL_law_275, ↓sL_law_277, ↓sL_law_278, ↓sL_law_279, ↓sL_law_280, ↓sL_law_281, ↓sL_law_283, ↓sL_law_284, ↓sL_law_285, ↓sL_law_286, ↓sL_law_289, ↓sL_law_290, ↓sL_law_291, ↓sL_law_292, ↓sL_law_294, ↓sL_law_295, ↓sL_law_296, ↓sL_law_297, ↓sL_law_298, ↓sL_law_300, ↓sL_law_301, ↓sL_law_302, ↓sL_law_303, ↓sL_law_304, ↓sL_law_306, ↓sL_law_307, ↓sL_law_308, ↓sL_law_309, ↓sL_law_312, ↓sL_law_313, ↓sL_law_316, ↓sL_law_317, ↓sL_law_318, ↓sL_law_320, ↓sL_law_321, ↓sL_law_322, ↓sL_law_323, ↓sL_law_324, ↓sL_law_326, ↓sL_law_327, ↓sL_law_328, ↓sL_law_329, ↓sL_law_330, ↓sL_law_332, ↓sL_law_333, ↓sL_law_334, ↓sL_law_335, ↓sL_law_338, ↓sL_law_339, ↓sL_law_340, ↓sL_law_341, ↓sL_law_343, ↓sL_law_344, ↓sL_law_345, ↓sL_law_346, ↓sL_law_347, ↓sL_law_349, ↓sL_law_350, ↓sL_law_351, ↓sL_law_352, ↓sL_law_353, ↓sL_law_355, ↓sL_law_356, ↓sL_law_357, ↓sL_law_358, ↓sL_law_361, ↓sL_law_362, ↓sL_law_365, ↓sL_law_366, ↓sL_law_367, ↓sL_law_369, ↓sL_law_370, ↓sL_law_371, ↓sL_law_372, ↓sL_law_373, ↓sL_law_375, ↓sL_law_376, ↓sL_law_377, ↓sL_law_378, ↓sL_law_381, ↓sL_law_382, ↓sL_law_383, ↓sL_law_384, ↓sL_law_386, ↓sL_law_387, ↓sL_law_388, ↓sL_law_389, ↓sL_law_390, ↓sL_law_392, ↓sL_law_393, ↓sL_law_394, ↓sL_law_395, ↓sL_law_398, ↓sL_law_399, ↓sL_law_402, ↓sL_law_403, ↓sL_law_404, ↓sL_law_406, ↓sL_law_407, ↓sL_law_408, ↓sL_law_409, ↓sL_law_410, ↓sL_law_412, ↓sL_law_413, ↓sL_law_414, ↓sL_law_415, ↓sL_law_416, ↓sL_law_418, ↓sL_law_419, ↓sL_law_420, ↓sL_law_421, ↓sL_law_424, ↓sL_law_425, ↓sL_law_426, ↓sL_law_428, ↓sL_law_429, ↓sL_law_430, ↓sL_law_431, ↓sL_law_432, ↓sL_law_434, ↓sL_law_435, ↓sL_law_436, ↓sL_law_437, ↓sL_law_438, ↓sL_law_440, ↓sL_law_441, ↓sL_law_442, ↓sL_law_443, ↓sL_law_446, ↓sL_law_449, ↓sL_law_450, ↓sL_law_451, ↓sL_law_452, ↓sL_law_455, ↓sL_law_456, ↓sL_law_457, ↓sL_law_460, ↓sL_law_461, ↓sL_law_464, ↓sL_law_465, ↓sL_law_466, ↓sL_law_468, ↓sL_law_469, ↓sL_law_470, ↓sL_law_471, ↓sL_law_474, ↓sL_law_475, ↓sL_law_476, ↓sL_law_477, ↓sL_law_479, ↓sL_law_480, ↓sL_law_481, ↓sL_law_482, ↓sL_law_485, ↓sL_law_486, ↓sL_law_489, ↓sL_law_490, ↓sL_law_491, ↓sL_law_493, ↓sL_law_494, ↓sL_law_495, ↓sL_law_496, ↓sL_law_499, ↓sL_law_500, ↓sL_law_503, ↓sL_law_504, ↓sL_law_505, ↓sL_law_508, ↓sL_law_510, ↓sL_law_511, ↓sL_law_512, ↓sL_law_514, ↓sL_law_515, ↓sL_law_516, ↓sL_law_517, ↓sL_law_520, ↓sL_law_521, ↓sL_law_524, ↓sL_law_525, ↓sL_law_528, ↓sL_law_530, ↓sL_law_533, ↓sL_law_534, ↓sL_law_537, ↓sL_law_538, ↓sL_law_539, ↓sL_law_542, ↓sL_law_543, ↓sL_law_546, ↓sL_law_547, ↓sL_law_548, ↓sL_law_550, ↓sL_law_551, ↓sL_law_552, ↓sL_law_553, ↓sL_law_556, ↓sL_law_557, ↓sL_law_558, ↓sL_law_559, ↓sL_law_561, ↓sL_law_562, ↓sL_law_563, ↓sL_law_564, ↓sL_law_567, ↓sL_law_568, ↓sL_law_571, ↓sL_law_572, ↓sL_law_573, ↓sL_law_575, ↓sL_law_576, ↓sL_law_577, ↓sL_law_578, ↓sL_law_579, ↓sL_law_581, ↓sL_law_582, ↓sL_law_583, ↓sL_law_584, ↓sL_law_587, ↓sL_law_588, ↓sL_law_589, ↓sL_law_590, ↓sL_law_592, ↓sL_law_593, ↓sL_law_594, ↓sL_law_595, ↓sL_law_596, ↓sL_law_598, ↓sL_law_599, ↓sL_law_600, ↓sL_law_601, ↓sL_law_604, ↓sL_law_605, ↓sL_law_608, ↓sL_law_609, ↓sL_law_612, ↓sL_law_613, ↓sL_law_614, ↓sL_law_617, ↓sL_law_618, ↓sL_law_621, ↓sL_law_622, ↓sL_law_623, ↓sL_law_625, ↓sL_law_626, ↓sL_law_627, ↓sL_law_628, ↓sL_law_629, ↓sL_law_631, ↓sL_law_632, ↓sL_law_633, ↓sL_law_634, ↓sL_law_635, ↓sL_law_638, ↓sL_law_640, ↓sL_law_641, ↓sL_law_642, ↓sL_law_644, ↓sL_law_645, ↓sL_law_646, ↓sL_law_647, ↓sL_law_648, ↓sL_law_650, ↓sL_law_651, ↓sL_law_652, ↓sL_law_653, ↓sL_law_656, ↓sL_law_658, ↓sL_law_661, ↓sL_law_662, ↓sL_law_665, ↓sL_law_666, ↓sL_law_667, ↓sL_law_670, ↓sL_law_671, ↓sL_law_674, ↓sL_law_675, ↓sL_law_676, ↓sL_law_678, ↓sL_law_679, ↓sL_law_680, ↓sL_law_681, ↓sL_law_684, ↓sL_law_685, ↓sL_law_686, ↓sL_law_687, ↓sL_law_689, ↓sL_law_690, ↓sL_law_691, ↓sL_law_692, ↓sL_law_695, ↓sL_law_696, ↓sL_law_699, ↓sL_law_702, ↓sL_law_705, ↓sL_law_706]
  refine z_new (ci := 10) (fs := [.int 0, .int 0, .int 0, .int 0, .null, .null, .null, .null, .int 0, .null, .null, .int 0, .int 0, .int 0, .int 0, .null, .null, .null, .null, .null, .int 0, .null, .int 0, .null, .null, .null, .null, .null, .null, .null, .int 0, .int 0, .int 0, .int 0, .int 0, .null]) (Cn := RX9) (T := TX9) (N := 36) C E tyX9 inlX9 tyX9_ok (by decide +kernel) (by decide +kernel) (by decide +kernel) rfl dfX9 (hb1 _) ⟨Nat.le_of_ble_eq_true rfl, Nat.le_of_ble_eq_true rfl⟩ dL_law_8 ?_
  have h8 : (zX8c b).length = 32 := rfl
  simp only [zl_nw, zl_1, h8]
  refine z_gn C E tkL_law (Nat.le_of_ble_eq_true rfl) (Nat.le_of_ble_eq_true rfl) [] 60 ?_
  simp only [↓z_rn_f, ↓z_rn_t, ↓z_rn_0, ↓zr_in0, ↓zr_ins, ↓zr_inn, ↓zr_bt, ↓zr_bf, ↓zr_li0, ↓zr_lis, ↓zr_la0, ↓zr_las, ↓zr_ll0, ↓zr_lls, ↓zr_1i, ↓zr_1l, ↓zr_1a, ↓zr_2i, ↓zr_2l, ↓zr_lsi, ↓zr_ia, ↓zr_aa, ↓zr_dia, ↓zr_iia, ↓zr_lia, ↓zr_d1i, ↓zr_d1r, ↓zr_e1, ↓zr_e2, ↓zr_e0, ↓zr_f0, ↓zr_fs, ↓zr_s0, ↓zr_ss, ↓zr_len, ↓zr_len0, ↓zr_ok0, ↓zr_okn, ↓zr_oki, ↓zr_okr, ↓zr_oks, ↓zr_tt, ↓zr_ar0u, ↓zr_ar0n, ↓zr_ar1u, ↓zr_ar1n, ↓zr_ar2u, ↓zr_ar2n, ↓zr_obu, ↓zr_obn, ↓Nat.reduceAdd, Nat.reduceEqDiff, Nat.add_left_cancel_iff, not_false_eq_true, z_up_up, true_and, ↓sL_law_0, ↓sL_law_3, ↓sL_law_4, ↓sL_law_7, ↓sL_law_8, ↓sL_law_11, ↓sL_law_12, ↓sL_law_15, ↓sL_law_16, ↓sL_law_17, ↓sL_law_19, ↓sL_law_20, ↓sL_law_21, ↓sL_law_23, ↓sL_law_25, ↓sL_law_26, ↓sL_law_27, ↓sL_law_28, ↓sL_law_29, ↓sL_law_32, ↓sL_law_33, ↓sL_law_35, ↓sL_law_36, ↓sL_law_38, ↓sL_law_39, ↓sL_law_124, ↓sL_law_125, ↓sL_law_126, ↓sL_law_128, ↓sL_law_129, ↓sL_law_130, ↓sL_law_131, ↓sL_law_132, ↓sL_law_135, ↓sL_law_137, ↓sL_law_138, ↓sL_law_139, ↓sL_law_141, ↓sL_law_142, ↓sL_law_143, ↓sL_law_144, ↓sL_law_147, ↓sL_law_149, ↓sL_law_152, ↓sL_law_153, ↓sL_law_154, ↓sL_law_156, ↓sL_law_157, ↓sL_law_158, ↓sL_law_159, ↓sL_law_162, ↓sL_law_163, ↓sL_law_164, ↓sL_law_165, ↓sL_law_167, ↓sL_law_168, ↓sL_law_169, ↓sL_law_170, ↓sL_law_173, ↓sL_law_174, ↓sL_law_177, ↓sL_law_178, ↓sL_law_179, ↓sL_law_181, ↓sL_law_182, ↓sL_law_183, ↓sL_law_184, ↓sL_law_185, ↓sL_law_187, ↓sL_law_188, ↓sL_law_189, ↓sL_law_190, ↓sL_law_191, ↓sL_law_193, ↓sL_law_194, ↓sL_law_195, ↓sL_law_196, ↓sL_law_197, ↓sL_law_199, ↓sL_law_200, ↓sL_law_201, ↓sL_law_202, ↓sL_law_205, ↓sL_law_206, ↓sL_law_209, ↓sL_law_210, ↓sL_law_213, ↓sL_law_214, ↓sL_law_215, ↓sL_law_216, ↓sL_law_218, ↓sL_law_219, ↓sL_law_220, ↓sL_law_221, ↓sL_law_222, ↓sL_law_224, ↓sL_law_225, ↓sL_law_226, ↓sL_law_227, ↓sL_law_228, ↓sL_law_230, ↓sL_law_231, ↓sL_law_232, ↓sL_law_233, ↓sL_law_234, ↓sL_law_236, ↓sL_law_237, ↓sL_law_238, ↓sL_law_239, ↓sL_law_242, ↓sL_law_243, ↓sL_law_246, ↓sL_law_247, ↓sL_law_250, ↓sL_law_251, ↓sL_law_254, ↓sL_law_255, ↓sL_law_258, ↓sL_law_259, ↓sL_law_260, ↓sL_law_263, ↓sL_law_264, ↓sL_law_267, ↓sL_law_268, ↓sL_law_269, ↓sL_law_271, ↓sL_law_272, ↓sL_law_273, ↓sL_law_274, ↓sL_law_275, ↓sL_law_277, ↓sL_law_278, ↓sL_law_279, ↓sL_law_280, ↓sL_law_281, ↓sL_law_283, ↓sL_law_284, ↓sL_law_285, ↓sL_law_286, ↓sL_law_289, ↓sL_law_290, ↓sL_law_291, ↓sL_law_292, ↓sL_law_294, ↓sL_law_295, ↓sL_law_296, ↓sL_law_297, ↓sL_law_298, ↓sL_law_300, ↓sL_law_301, ↓sL_law_302, ↓sL_law_303, ↓sL_law_304, ↓sL_law_306, ↓sL_law_307, ↓sL_law_308, ↓sL_law_309, ↓sL_law_312, ↓sL_law_313, ↓sL_law_316, ↓sL_law_317, ↓sL_law_318, ↓sL_law_320, ↓sL_law_321, ↓sL_law_322, ↓sL_law_323, ↓sL_law_324, ↓sL_law_326, ↓sL_law_327, ↓sL_law_328, ↓sL_law_329, ↓sL_law_330, ↓sL_law_332, ↓sL_law_333, ↓sL_law_334, ↓sL_law_335, ↓sL_law_338, ↓sL_law_339, ↓sL_law_340, ↓sL_law_341, ↓sL_law_343, ↓sL_law_344, ↓sL_law_345, ↓sL_law_346, ↓sL_law_347, ↓sL_law_349, ↓sL_law_350, ↓sL_law_351, ↓sL_law_352, ↓sL_law_353, ↓sL_law_355, ↓sL_law_356, ↓sL_law_357, ↓sL_law_358, ↓sL_law_361, ↓sL_law_362, ↓sL_law_365, ↓sL_law_366, ↓sL_law_367, ↓sL_law_369, ↓sL_law_370, ↓sL_law_371, ↓sL_law_372, ↓sL_law_373, ↓sL_law_375, ↓sL_law_376, ↓sL_law_377, ↓sL_law_378, ↓sL_law_381, ↓sL_law_382, ↓sL_law_383, ↓sL_law_384, ↓sL_law_386, ↓sL_law_387, ↓sL_law_388, ↓sL_law_389, ↓sL_law_390, ↓sL_law_392, ↓sL_law_393, ↓sL_law_394, ↓sL_law_395, ↓sL_law_398, ↓sL_law_399, ↓sL_law_402, ↓sL_law_403, ↓sL_law_404, ↓sL_law_406, ↓sL_law_407, ↓sL_law_408, ↓sL_law_409, ↓sL_law_410, ↓sL_law_412, ↓sL_law_413, ↓sL_law_414, ↓sL_law_415, ↓sL_law_416, ↓sL_law_418, ↓sL_law_419, ↓sL_law_420, ↓sL_law_421, ↓sL_law_424, ↓sL_law_425, ↓sL_law_426, ↓sL_law_428, ↓sL_law_429, ↓sL_law_430, ↓sL_law_431, ↓sL_law_432, ↓sL_law_434, ↓sL_law_435, ↓sL_law_436, ↓sL_law_437, ↓sL_law_438, ↓sL_law_440, ↓sL_law_441, ↓sL_law_442, ↓sL_law_443, ↓sL_law_446, ↓sL_law_449, ↓sL_law_450, ↓sL_law_451, ↓sL_law_452, ↓sL_law_455, ↓sL_law_456, ↓sL_law_457, ↓sL_law_460, ↓sL_law_461, ↓sL_law_464, ↓sL_law_465, ↓sL_law_466, ↓sL_law_468, ↓sL_law_469, ↓sL_law_470, ↓sL_law_471, ↓sL_law_474, ↓sL_law_475, ↓sL_law_476, ↓sL_law_477, ↓sL_law_479, ↓sL_law_480, ↓sL_law_481, ↓sL_law_482, ↓sL_law_485, ↓sL_law_486, ↓sL_law_489, ↓sL_law_490, ↓sL_law_491, ↓sL_law_493, ↓sL_law_494, ↓sL_law_495, ↓sL_law_496, ↓sL_law_499, ↓sL_law_500, ↓sL_law_503, ↓sL_law_504, ↓sL_law_505, ↓sL_law_508, ↓sL_law_510, ↓sL_law_511, ↓sL_law_512, ↓sL_law_514, ↓sL_law_515, ↓sL_law_516, ↓sL_law_517, ↓sL_law_520, ↓sL_law_521, ↓sL_law_524, ↓sL_law_525, ↓sL_law_528, ↓sL_law_530, ↓sL_law_533, ↓sL_law_534, ↓sL_law_537, ↓sL_law_538, ↓sL_law_539, ↓sL_law_542, ↓sL_law_543, ↓sL_law_546, ↓sL_law_547, ↓sL_law_548, ↓sL_law_550, ↓sL_law_551, ↓sL_law_552, ↓sL_law_553, ↓sL_law_556, ↓sL_law_557, ↓sL_law_558, ↓sL_law_559, ↓sL_law_561, ↓sL_law_562, ↓sL_law_563, ↓sL_law_564, ↓sL_law_567, ↓sL_law_568, ↓sL_law_571, ↓sL_law_572, ↓sL_law_573, ↓sL_law_575, ↓sL_law_576, ↓sL_law_577, ↓sL_law_578, ↓sL_law_579, ↓sL_law_581, ↓sL_law_582, ↓sL_law_583, ↓sL_law_584, ↓sL_law_587, ↓sL_law_588, ↓sL_law_589, ↓sL_law_590, ↓sL_law_592, ↓sL_law_593, ↓sL_law_594, ↓sL_law_595, ↓sL_law_596, ↓sL_law_598, ↓sL_law_599, ↓sL_law_600, ↓sL_law_601, ↓sL_law_604, ↓sL_law_605, ↓sL_law_608, ↓sL_law_609, ↓sL_law_612, ↓sL_law_613, ↓sL_law_614, ↓sL_law_617, ↓sL_law_618, ↓sL_law_621, ↓sL_law_622, ↓sL_law_623, ↓sL_law_625, ↓sL_law_626, ↓sL_law_627, ↓sL_law_628, ↓sL_law_629, ↓sL_law_631, ↓sL_law_632, ↓sL_law_633, ↓sL_law_634, ↓sL_law_635, ↓sL_law_638, ↓sL_law_640, ↓sL_law_641, ↓sL_law_642, ↓sL_law_644, ↓sL_law_645, ↓sL_law_646, ↓sL_law_647, ↓sL_law_648, ↓sL_law_650, ↓sL_law_651, ↓sL_law_652, ↓sL_law_653, ↓sL_law_656, ↓sL_law_658, ↓sL_law_661, ↓sL_law_662, ↓sL_law_665, ↓sL_law_666, ↓sL_law_667, ↓sL_law_670, ↓sL_law_671, ↓sL_law_674, ↓sL_law_675, ↓sL_law_676, ↓sL_law_678, ↓sL_law_679, ↓sL_law_680, ↓sL_law_681, ↓sL_law_684, ↓sL_law_685, ↓sL_law_686, ↓sL_law_687, ↓sL_law_689, ↓sL_law_690, ↓sL_law_691, ↓sL_law_692, ↓sL_law_695, ↓sL_law_696, ↓sL_law_699, ↓sL_law_702, ↓sL_law_705, ↓sL_law_706]
  refine z_callI (n := 0) (As := []) (rest := [.ref (b + 32)]) C E (zl_M (zX8c b) h8 (c_X9_init G _ (b + 32) (hb1 _))) gL_law_X9_init rfl rfl rfl (by decide +kernel) (by decide +kernel) (by decide +kernel) rfl (by decide +kernel) (by decide) dL_law_12 rfl ⟨Nat.le_of_ble_eq_true rfl, Nat.le_of_ble_eq_true rfl⟩ (Nat.le_of_ble_eq_true rfl) ?_
  rintro x w1 ⟨rfl, rfl⟩
  simp only [Option.toList, List.nil_append]
  refine z_gn C E tkL_law (Nat.le_of_ble_eq_true rfl) (Nat.le_of_ble_eq_true rfl) [] 60 ?_
  simp only [↓z_rn_f, ↓z_rn_t, ↓z_rn_0, ↓zr_in0, ↓zr_ins, ↓zr_inn, ↓zr_bt, ↓zr_bf, ↓zr_li0, ↓zr_lis, ↓zr_la0, ↓zr_las, ↓zr_ll0, ↓zr_lls, ↓zr_1i, ↓zr_1l, ↓zr_1a, ↓zr_2i, ↓zr_2l, ↓zr_lsi, ↓zr_ia, ↓zr_aa, ↓zr_dia, ↓zr_iia, ↓zr_lia, ↓zr_d1i, ↓zr_d1r, ↓zr_e1, ↓zr_e2, ↓zr_e0, ↓zr_f0, ↓zr_fs, ↓zr_s0, ↓zr_ss, ↓zr_len, ↓zr_len0, ↓zr_ok0, ↓zr_okn, ↓zr_oki, ↓zr_okr, ↓zr_oks, ↓zr_tt, ↓zr_ar0u, ↓zr_ar0n, ↓zr_ar1u, ↓zr_ar1n, ↓zr_ar2u, ↓zr_ar2n, ↓zr_obu, ↓zr_obn, ↓Nat.reduceAdd, Nat.reduceEqDiff, Nat.add_left_cancel_iff, not_false_eq_true, z_up_up, true_and, ↓sL_law_0, ↓sL_law_3, ↓sL_law_4, ↓sL_law_7, ↓sL_law_8, ↓sL_law_11, ↓sL_law_12, ↓sL_law_15, ↓sL_law_16, ↓sL_law_17, ↓sL_law_19, ↓sL_law_20, ↓sL_law_21, ↓sL_law_23, ↓sL_law_25, ↓sL_law_26, ↓sL_law_27, ↓sL_law_28, ↓sL_law_29, ↓sL_law_32, ↓sL_law_33, ↓sL_law_35, ↓sL_law_36, ↓sL_law_38, ↓sL_law_39, ↓sL_law_124, ↓sL_law_125, ↓sL_law_126, ↓sL_law_128, ↓sL_law_129, ↓sL_law_130, ↓sL_law_131, ↓sL_law_132, ↓sL_law_135, ↓sL_law_137, ↓sL_law_138, ↓sL_law_139, ↓sL_law_141, ↓sL_law_142, ↓sL_law_143, ↓sL_law_144, ↓sL_law_147, ↓sL_law_149, ↓sL_law_152, ↓sL_law_153, ↓sL_law_154, ↓sL_law_156, ↓sL_law_157, ↓sL_law_158, ↓sL_law_159, ↓sL_law_162, ↓sL_law_163, ↓sL_law_164, ↓sL_law_165, ↓sL_law_167, ↓sL_law_168, ↓sL_law_169, ↓sL_law_170, ↓sL_law_173, ↓sL_law_174, ↓sL_law_177, ↓sL_law_178, ↓sL_law_179, ↓sL_law_181, ↓sL_law_182, ↓sL_law_183, ↓sL_law_184, ↓sL_law_185, ↓sL_law_187, ↓sL_law_188, ↓sL_law_189, ↓sL_law_190, ↓sL_law_191, ↓sL_law_193, ↓sL_law_194, ↓sL_law_195, ↓sL_law_196, ↓sL_law_197, ↓sL_law_199, ↓sL_law_200, ↓sL_law_201, ↓sL_law_202, ↓sL_law_205, ↓sL_law_206, ↓sL_law_209, ↓sL_law_210, ↓sL_law_213, ↓sL_law_214, ↓sL_law_215, ↓sL_law_216, ↓sL_law_218, ↓sL_law_219, ↓sL_law_220, ↓sL_law_221, ↓sL_law_222, ↓sL_law_224, ↓sL_law_225, ↓sL_law_226, ↓sL_law_227, ↓sL_law_228, ↓sL_law_230, ↓sL_law_231, ↓sL_law_232, ↓sL_law_233, ↓sL_law_234, ↓sL_law_236, ↓sL_law_237, ↓sL_law_238, ↓sL_law_239, ↓sL_law_242, ↓sL_law_243, ↓sL_law_246, ↓sL_law_247, ↓sL_law_250, ↓sL_law_251, ↓sL_law_254, ↓sL_law_255, ↓sL_law_258, ↓sL_law_259, ↓sL_law_260, ↓sL_law_263, ↓sL_law_264, ↓sL_law_267, ↓sL_law_268, ↓sL_law_269, ↓sL_law_271, ↓sL_law_272, ↓sL_law_273, ↓sL_law_274, ↓sL_law_275, ↓sL_law_277, ↓sL_law_278, ↓sL_law_279, ↓sL_law_280, ↓sL_law_281, ↓sL_law_283, ↓sL_law_284, ↓sL_law_285, ↓sL_law_286, ↓sL_law_289, ↓sL_law_290, ↓sL_law_291, ↓sL_law_292, ↓sL_law_294, ↓sL_law_295, ↓sL_law_296, ↓sL_law_297, ↓sL_law_298, ↓sL_law_300, ↓sL_law_301, ↓sL_law_302, ↓sL_law_303, ↓sL_law_304, ↓sL_law_306, ↓sL_law_307, ↓sL_law_308, ↓sL_law_309, ↓sL_law_312, ↓sL_law_313, ↓sL_law_316, ↓sL_law_317, ↓sL_law_318, ↓sL_law_320, ↓sL_law_321, ↓sL_law_322, ↓sL_law_323, ↓sL_law_324, ↓sL_law_326, ↓sL_law_327, ↓sL_law_328, ↓sL_law_329, ↓sL_law_330, ↓sL_law_332, ↓sL_law_333, ↓sL_law_334, ↓sL_law_335, ↓sL_law_338, ↓sL_law_339, ↓sL_law_340, ↓sL_law_341, ↓sL_law_343, ↓sL_law_344, ↓sL_law_345, ↓sL_law_346, ↓sL_law_347, ↓sL_law_349, ↓sL_law_350, ↓sL_law_351, ↓sL_law_352, ↓sL_law_353, ↓sL_law_355, ↓sL_law_356, ↓sL_law_357, ↓sL_law_358, ↓sL_law_361, ↓sL_law_362, ↓sL_law_365, ↓sL_law_366, ↓sL_law_367, ↓sL_law_369, ↓sL_law_370, ↓sL_law_371, ↓sL_law_372, ↓sL_law_373, ↓sL_law_375, ↓sL_law_376, ↓sL_law_377, ↓sL_law_378, ↓sL_law_381, ↓sL_law_382, ↓sL_law_383, ↓sL_law_384, ↓sL_law_386, ↓sL_law_387, ↓sL_law_388, ↓sL_law_389, ↓sL_law_390, ↓sL_law_392, ↓sL_law_393, ↓sL_law_394, ↓sL_law_395, ↓sL_law_398, ↓sL_law_399, ↓sL_law_402, ↓sL_law_403, ↓sL_law_404, ↓sL_law_406, ↓sL_law_407, ↓sL_law_408, ↓sL_law_409, ↓sL_law_410, ↓sL_law_412, ↓sL_law_413, ↓sL_law_414, ↓sL_law_415, ↓sL_law_416, ↓sL_law_418, ↓sL_law_419, ↓sL_law_420, ↓sL_law_421, ↓sL_law_424, ↓sL_law_425, ↓sL_law_426, ↓sL_law_428, ↓sL_law_429, ↓sL_law_430, ↓sL_law_431, ↓sL_law_432, ↓sL_law_434, ↓sL_law_435, ↓sL_law_436, ↓sL_law_437, ↓sL_law_438, ↓sL_law_440, ↓sL_law_441, ↓sL_law_442, ↓sL_law_443, ↓sL_law_446, ↓sL_law_449, ↓sL_law_450, ↓sL_law_451, ↓sL_law_452, ↓sL_law_455, ↓sL_law_456, ↓sL_law_457, ↓sL_law_460, ↓sL_law_461, ↓sL_law_464, ↓sL_law_465, ↓sL_law_466, ↓sL_law_468, ↓sL_law_469, ↓sL_law_470, ↓sL_law_471, ↓sL_law_474, ↓sL_law_475, ↓sL_law_476, ↓sL_law_477, ↓sL_law_479, ↓sL_law_480, ↓sL_law_481, ↓sL_law_482, ↓sL_law_485, ↓sL_law_486, ↓sL_law_489, ↓sL_law_490, ↓sL_law_491, ↓sL_law_493, ↓sL_law_494, ↓sL_law_495, ↓sL_law_496, ↓sL_law_499, ↓sL_law_500, ↓sL_law_503, ↓sL_law_504, ↓sL_law_505, ↓sL_law_508, ↓sL_law_510, ↓sL_law_511, ↓sL_law_512, ↓sL_law_514, ↓sL_law_515, ↓sL_law_516, ↓sL_law_517, ↓sL_law_520, ↓sL_law_521, ↓sL_law_524, ↓sL_law_525, ↓sL_law_528, ↓sL_law_530, ↓sL_law_533, ↓sL_law_534, ↓sL_law_537, ↓sL_law_538, ↓sL_law_539, ↓sL_law_542, ↓sL_law_543, ↓sL_law_546, ↓sL_law_547, ↓sL_law_548, ↓sL_law_550, ↓sL_law_551, ↓sL_law_552, ↓sL_law_553, ↓sL_law_556, ↓sL_law_557, ↓sL_law_558, ↓sL_law_559, ↓sL_law_561, ↓sL_law_562, ↓sL_law_563, ↓sL_law_564, ↓sL_law_567, ↓sL_law_568, ↓sL_law_571, ↓sL_law_572, ↓sL_law_573, ↓sL_law_575, ↓sL_law_576, ↓sL_law_577, ↓sL_law_578, ↓sL_law_579, ↓sL_law_581, ↓sL_law_582, ↓sL_law_583, ↓sL_law_584, ↓sL_law_587, ↓sL_law_588, ↓sL_law_589, ↓sL_law_590, ↓sL_law_592, ↓sL_law_593, ↓sL_law_594, ↓sL_law_595, ↓sL_law_596, ↓sL_law_598, ↓sL_law_599, ↓sL_law_600, ↓sL_law_601, ↓sL_law_604, ↓sL_law_605, ↓sL_law_608, ↓sL_law_609, ↓sL_law_612, ↓sL_law_613, ↓sL_law_614, ↓sL_law_617, ↓sL_law_618, ↓sL_law_621, ↓sL_law_622, ↓sL_law_623, ↓sL_law_625, ↓sL_law_626, ↓sL_law_627, ↓sL_law_628, ↓sL_law_629, ↓sL_law_631, ↓sL_law_632, ↓sL_law_633, ↓sL_law_634, ↓sL_law_635, ↓sL_law_638, ↓sL_law_640, ↓sL_law_641, ↓sL_law_642, ↓sL_law_644, ↓sL_law_645, ↓sL_law_646, ↓sL_law_647, ↓sL_law_648, ↓sL_law_650, ↓sL_law_651, ↓sL_law_652, ↓sL_law_653, ↓sL_law_656, ↓sL_law_658, ↓sL_law_661, ↓sL_law_662, ↓sL_law_665, ↓sL_law_666, ↓sL_law_667, ↓sL_law_670, ↓sL_law_671, ↓sL_law_674, ↓sL_law_675, ↓sL_law_676, ↓sL_law_678, ↓sL_law_679, ↓sL_law_680, ↓sL_law_681, ↓sL_law_684, ↓sL_law_685, ↓sL_law_686, ↓sL_law_687, ↓sL_law_689, ↓sL_law_690, ↓sL_law_691, ↓sL_law_692, ↓sL_law_695, ↓sL_law_696, ↓sL_law_699, ↓sL_law_702, ↓sL_law_705, ↓sL_law_706]
  refine z_newl C E 1 (by decide +kernel) (hb1 _) (by decide) (by decide) (by decide) ⟨Nat.le_of_ble_eq_true rfl, Nat.le_of_ble_eq_true rfl⟩ dL_law_17 ?_
  have h9 : (zX8c b ++ zX9c (b + 32)).length = 53 := rfl
  simp only [zl_nw, zl_1, h9]
  have hF := zls_fr w00 b (.inl (2, 1, .inr (.inl (fun _ => 0))))
  have hM := zls_fm w00 b (.inl (2, 1, .inr (.inl (fun _ => 0))))
  have hO := zls_fo w00 b (.inl (2, 1, .inr (.inl (fun _ => 0))))
  have hw : (z_ls w00 b (zX8c b ++ zX9c (b + 32) ++ [.inl (2, 1, .inr (.inl (fun _ => 0)))])).1 = b + 54 := rfl
  generalize z_ls w00 b (zX8c b ++ zX9c (b + 32) ++ [.inl (2, 1, .inr (.inl (fun _ => 0)))]) = w at hF hM hO hw ⊢
  have HH : zLw G Γ P nm sb L xs b := ⟨C, E, hP, ⟨hX, hbl, hbA⟩, hL, hG, hts'⟩
  refine z_gn C E tkL_law (Nat.le_of_ble_eq_true rfl) (Nat.le_of_ble_eq_true rfl) [23] 60 ?_
  simp only [↓z_rn_f, ↓z_rn_t, ↓z_rn_0, ↓zr_in0, ↓zr_ins, ↓zr_inn, ↓zr_bt, ↓zr_bf, ↓zr_li0, ↓zr_lis, ↓zr_la0, ↓zr_las, ↓zr_ll0, ↓zr_lls, ↓zr_1i, ↓zr_1l, ↓zr_1a, ↓zr_2i, ↓zr_2l, ↓zr_lsi, ↓zr_ia, ↓zr_aa, ↓zr_dia, ↓zr_iia, ↓zr_lia, ↓zr_d1i, ↓zr_d1r, ↓zr_e1, ↓zr_e2, ↓zr_e0, ↓zr_f0, ↓zr_fs, ↓zr_s0, ↓zr_ss, ↓zr_len, ↓zr_len0, ↓zr_ok0, ↓zr_okn, ↓zr_oki, ↓zr_okr, ↓zr_oks, ↓zr_tt, ↓zr_ar0u, ↓zr_ar0n, ↓zr_ar1u, ↓zr_ar1n, ↓zr_ar2u, ↓zr_ar2n, ↓zr_obu, ↓zr_obn, ↓Nat.reduceAdd, Nat.reduceEqDiff, Nat.add_left_cancel_iff, not_false_eq_true, z_up_up, true_and, ↓sL_law_0, ↓sL_law_3, ↓sL_law_4, ↓sL_law_7, ↓sL_law_8, ↓sL_law_11, ↓sL_law_12, ↓sL_law_15, ↓sL_law_16, ↓sL_law_17, ↓sL_law_19, ↓sL_law_20, ↓sL_law_21, ↓sL_law_23, ↓sL_law_25, ↓sL_law_26, ↓sL_law_27, ↓sL_law_28, ↓sL_law_29, ↓sL_law_32, ↓sL_law_33, ↓sL_law_35, ↓sL_law_36, ↓sL_law_38, ↓sL_law_39, ↓sL_law_124, ↓sL_law_125, ↓sL_law_126, ↓sL_law_128, ↓sL_law_129, ↓sL_law_130, ↓sL_law_131, ↓sL_law_132, ↓sL_law_135, ↓sL_law_137, ↓sL_law_138, ↓sL_law_139, ↓sL_law_141, ↓sL_law_142, ↓sL_law_143, ↓sL_law_144, ↓sL_law_147, ↓sL_law_149, ↓sL_law_152, ↓sL_law_153, ↓sL_law_154, ↓sL_law_156, ↓sL_law_157, ↓sL_law_158, ↓sL_law_159, ↓sL_law_162, ↓sL_law_163, ↓sL_law_164, ↓sL_law_165, ↓sL_law_167, ↓sL_law_168, ↓sL_law_169, ↓sL_law_170, ↓sL_law_173, ↓sL_law_174, ↓sL_law_177, ↓sL_law_178, ↓sL_law_179, ↓sL_law_181, ↓sL_law_182, ↓sL_law_183, ↓sL_law_184, ↓sL_law_185, ↓sL_law_187, ↓sL_law_188, ↓sL_law_189, ↓sL_law_190, ↓sL_law_191, ↓sL_law_193, ↓sL_law_194, ↓sL_law_195, ↓sL_law_196, ↓sL_law_197, ↓sL_law_199, ↓sL_law_200, ↓sL_law_201, ↓sL_law_202, ↓sL_law_205, ↓sL_law_206, ↓sL_law_209, ↓sL_law_210, ↓sL_law_213, ↓sL_law_214, ↓sL_law_215, ↓sL_law_216, ↓sL_law_218, ↓sL_law_219, ↓sL_law_220, ↓sL_law_221, ↓sL_law_222, ↓sL_law_224, ↓sL_law_225, ↓sL_law_226, ↓sL_law_227, ↓sL_law_228, ↓sL_law_230, ↓sL_law_231, ↓sL_law_232, ↓sL_law_233, ↓sL_law_234, ↓sL_law_236, ↓sL_law_237, ↓sL_law_238, ↓sL_law_239, ↓sL_law_242, ↓sL_law_243, ↓sL_law_246, ↓sL_law_247, ↓sL_law_250, ↓sL_law_251, ↓sL_law_254, ↓sL_law_255, ↓sL_law_258, ↓sL_law_259, ↓sL_law_260, ↓sL_law_263, ↓sL_law_264, ↓sL_law_267, ↓sL_law_268, ↓sL_law_269, ↓sL_law_271, ↓sL_law_272, ↓sL_law_273, ↓sL_law_274, ↓sL_law_275, ↓sL_law_277, ↓sL_law_278, ↓sL_law_279, ↓sL_law_280, ↓sL_law_281, ↓sL_law_283, ↓sL_law_284, ↓sL_law_285, ↓sL_law_286, ↓sL_law_289, ↓sL_law_290, ↓sL_law_291, ↓sL_law_292, ↓sL_law_294, ↓sL_law_295, ↓sL_law_296, ↓sL_law_297, ↓sL_law_298, ↓sL_law_300, ↓sL_law_301, ↓sL_law_302, ↓sL_law_303, ↓sL_law_304, ↓sL_law_306, ↓sL_law_307, ↓sL_law_308, ↓sL_law_309, ↓sL_law_312, ↓sL_law_313, ↓sL_law_316, ↓sL_law_317, ↓sL_law_318, ↓sL_law_320, ↓sL_law_321, ↓sL_law_322, ↓sL_law_323, ↓sL_law_324, ↓sL_law_326, ↓sL_law_327, ↓sL_law_328, ↓sL_law_329, ↓sL_law_330, ↓sL_law_332, ↓sL_law_333, ↓sL_law_334, ↓sL_law_335, ↓sL_law_338, ↓sL_law_339, ↓sL_law_340, ↓sL_law_341, ↓sL_law_343, ↓sL_law_344, ↓sL_law_345, ↓sL_law_346, ↓sL_law_347, ↓sL_law_349, ↓sL_law_350, ↓sL_law_351, ↓sL_law_352, ↓sL_law_353, ↓sL_law_355, ↓sL_law_356, ↓sL_law_357, ↓sL_law_358, ↓sL_law_361, ↓sL_law_362, ↓sL_law_365, ↓sL_law_366, ↓sL_law_367, ↓sL_law_369, ↓sL_law_370, ↓sL_law_371, ↓sL_law_372, ↓sL_law_373, ↓sL_law_375, ↓sL_law_376, ↓sL_law_377, ↓sL_law_378, ↓sL_law_381, ↓sL_law_382, ↓sL_law_383, ↓sL_law_384, ↓sL_law_386, ↓sL_law_387, ↓sL_law_388, ↓sL_law_389, ↓sL_law_390, ↓sL_law_392, ↓sL_law_393, ↓sL_law_394, ↓sL_law_395, ↓sL_law_398, ↓sL_law_399, ↓sL_law_402, ↓sL_law_403, ↓sL_law_404, ↓sL_law_406, ↓sL_law_407, ↓sL_law_408, ↓sL_law_409, ↓sL_law_410, ↓sL_law_412, ↓sL_law_413, ↓sL_law_414, ↓sL_law_415, ↓sL_law_416, ↓sL_law_418, ↓sL_law_419, ↓sL_law_420, ↓sL_law_421, ↓sL_law_424, ↓sL_law_425, ↓sL_law_426, ↓sL_law_428, ↓sL_law_429, ↓sL_law_430, ↓sL_law_431, ↓sL_law_432, ↓sL_law_434, ↓sL_law_435, ↓sL_law_436, ↓sL_law_437, ↓sL_law_438, ↓sL_law_440, ↓sL_law_441, ↓sL_law_442, ↓sL_law_443, ↓sL_law_446, ↓sL_law_449, ↓sL_law_450, ↓sL_law_451, ↓sL_law_452, ↓sL_law_455, ↓sL_law_456, ↓sL_law_457, ↓sL_law_460, ↓sL_law_461, ↓sL_law_464, ↓sL_law_465, ↓sL_law_466, ↓sL_law_468, ↓sL_law_469, ↓sL_law_470, ↓sL_law_471, ↓sL_law_474, ↓sL_law_475, ↓sL_law_476, ↓sL_law_477, ↓sL_law_479, ↓sL_law_480, ↓sL_law_481, ↓sL_law_482, ↓sL_law_485, ↓sL_law_486, ↓sL_law_489, ↓sL_law_490, ↓sL_law_491, ↓sL_law_493, ↓sL_law_494, ↓sL_law_495, ↓sL_law_496, ↓sL_law_499, ↓sL_law_500, ↓sL_law_503, ↓sL_law_504, ↓sL_law_505, ↓sL_law_508, ↓sL_law_510, ↓sL_law_511, ↓sL_law_512, ↓sL_law_514, ↓sL_law_515, ↓sL_law_516, ↓sL_law_517, ↓sL_law_520, ↓sL_law_521, ↓sL_law_524, ↓sL_law_525, ↓sL_law_528, ↓sL_law_530, ↓sL_law_533, ↓sL_law_534, ↓sL_law_537, ↓sL_law_538, ↓sL_law_539, ↓sL_law_542, ↓sL_law_543, ↓sL_law_546, ↓sL_law_547, ↓sL_law_548, ↓sL_law_550, ↓sL_law_551, ↓sL_law_552, ↓sL_law_553, ↓sL_law_556, ↓sL_law_557, ↓sL_law_558, ↓sL_law_559, ↓sL_law_561, ↓sL_law_562, ↓sL_law_563, ↓sL_law_564, ↓sL_law_567, ↓sL_law_568, ↓sL_law_571, ↓sL_law_572, ↓sL_law_573, ↓sL_law_575, ↓sL_law_576, ↓sL_law_577, ↓sL_law_578, ↓sL_law_579, ↓sL_law_581, ↓sL_law_582, ↓sL_law_583, ↓sL_law_584, ↓sL_law_587, ↓sL_law_588, ↓sL_law_589, ↓sL_law_590, ↓sL_law_592, ↓sL_law_593, ↓sL_law_594, ↓sL_law_595, ↓sL_law_596, ↓sL_law_598, ↓sL_law_599, ↓sL_law_600, ↓sL_law_601, ↓sL_law_604, ↓sL_law_605, ↓sL_law_608, ↓sL_law_609, ↓sL_law_612, ↓sL_law_613, ↓sL_law_614, ↓sL_law_617, ↓sL_law_618, ↓sL_law_621, ↓sL_law_622, ↓sL_law_623, ↓sL_law_625, ↓sL_law_626, ↓sL_law_627, ↓sL_law_628, ↓sL_law_629, ↓sL_law_631, ↓sL_law_632, ↓sL_law_633, ↓sL_law_634, ↓sL_law_635, ↓sL_law_638, ↓sL_law_640, ↓sL_law_641, ↓sL_law_642, ↓sL_law_644, ↓sL_law_645, ↓sL_law_646, ↓sL_law_647, ↓sL_law_648, ↓sL_law_650, ↓sL_law_651, ↓sL_law_652, ↓sL_law_653, ↓sL_law_656, ↓sL_law_658, ↓sL_law_661, ↓sL_law_662, ↓sL_law_665, ↓sL_law_666, ↓sL_law_667, ↓sL_law_670, ↓sL_law_671, ↓sL_law_674, ↓sL_law_675, ↓sL_law_676, ↓sL_law_678, ↓sL_law_679, ↓sL_law_680, ↓sL_law_681, ↓sL_law_684, ↓sL_law_685, ↓sL_law_686, ↓sL_law_687, ↓sL_law_689, ↓sL_law_690, ↓sL_law_691, ↓sL_law_692, ↓sL_law_695, ↓sL_law_696, ↓sL_law_699, ↓sL_law_702, ↓sL_law_705, ↓sL_law_706]
  exact law_loop HH 2561 w 0 54 149066 none none (zLs.new hF hM ⟨_, hO⟩ (by omega)) (by decide) (by rw [zi_0]; omega) (by decide) (by decide) (by rw [zi_0]; omega)
/-! THE CLAIM OUT OF ONE WALK OF THE LAW'S BODY. Your part is whole_start (and what it stands on); all else here is the same for every law, but numbers. -/
def lw_P (b : Addr) (xs : List Int32) (args : Array Value) (s : State) : Prop := args = #[.ref b] ∧ s.IntsAt b xs ∧ xs.length ≤ 2560 ∧ (Jvm.Cond.and given_1 narrow_1).before args s = true
def lw_Q (_ : Array Value) (s : State) (o : Outcome) (t : State) : Prop := o = .returned (some (.int 1)) ∧ Framed s o t [] 601024 7293034
def lw_Z (below : List Frame) (a : Array Value) (s : State) : State → Prop := fun t => ∃ o, t.status = .running ∧ Ended t below o ∧ lw_Q a s o t
/-- the law's own end, with 1 on the stack, nothing written that was there before, its room as the claim has it -/
theorem lw_ret {p : Program} {l : Launch} {e : Env} {s : State} {m : MethodId} {below : List Frame} {meth : Method} {c : Code} {b : Nat} (hx : p.tables.exec = Jvm.exec) (hb : c.code = code) (hr : meth.sig.returnType = ret) (hlocks : meth.locks = false) {pc : Nat} {H : Heap} {ls : Array Slot} (hdg : decode code pc = .ok (.ireturn, 1)) : W p l e room_1 s m #[Value.ref b] below meth c H [] 601024 7293034 (lw_Z below #[Value.ref b] s) (F0 m pc ls [.int 1]) := by
  intro T hT X
  obtain ⟨fs, hret, hrun, hended, hW, hframe⟩ := X.leave (v := some (.int 1)) (hlocks := hlocks) (fun h => by rw [hr] at h; cases h)
  have hmeth' : T.vm.method? m = some meth := X.method'
  refine ⟨T.setFrames fs, ?_, .returned (some (.int 1)), hrun, hended, rfl, ⟨_, rfl⟩, hW, hframe⟩
  jvm_step X.here [X.here.top, hx, hb, hdg, hmeth', hr, ret, narrow_b1]
  (try refine ⟨rfl, ?_⟩); (try refine ⟨rfl, ?_⟩)
  first | (intro acts; rw [hret _ acts rfl rfl rfl]) | rw [hret _ _ rfl rfl rfl]
  exact Steps.refl _
set_option maxHeartbeats 2000000 in
theorem whole_start {p : Program} {e : Env} {s : State} {m : MethodId} {below : List Frame} {meth : Method} {c : Code} (l : Launch) (hl : l.stackTraces = false) {b L : Nat} {xs : Nat → Int32} (hL : L ≤ 2560) (C0 : lw_At p s m meth c b L xs) : W p l e room_1 s m #[Value.ref b] below meth c s.heap [] 0 0 (lw_Z below #[Value.ref b] s) (entryFrame m ([Value.ref b] : List Value).toArray 7) := by
  obtain ⟨D, hKc⟩ := z_beginK C0
  obtain ⟨cA, hAr⟩ := z_beginA C0
  have hS := z_beginS C0 l hl D cA
  obtain ⟨hx, hb, hr, hml, hown, hts, hX, hbl, hlk, hgv⟩ := id C0
  have hl0 := lv_entry ([.ref b]) (n := 7) (Nat.le_of_ble_eq_true rfl)
  rw [lg_entry_eq]
  have hJ := law_all (G := (l, D, cA, s.heap.size)) (Γ := (p, e, room_1, s, m, #[Value.ref b], below, meth, c, MQ below (z_Q (l, D, cA, s.heap.size) (fun x _ => x = some (.int 1))) #[Value.ref b] s 601024 7293034 (z_A (l, D, cA, s.heap.size)))) (P := fun x _ => x = some (.int 1)) (nm := meth.name) (b := s.heap.size) (0, fun _ => none) ⟨⟨hx, hb, hml, hown, fun w hw => hts w (wsL_law_in w hw)⟩, ⟨hKc, hAr⟩, hS, hlk⟩ ⟨rfl, rfl, hr, rfl⟩ (fun _ => rfl) hX hbl (Nat.not_le.mpr hbl) hL rfl (fun x h => hts x (z_wlA x h))
  have hW := hJ s.heap [] _ ⟨rfl, fun k d hk => by
    unfold z_ls at hk
    simp at hk⟩ va_S.rf ⟨hl0.1, hl0.2.1, fun i v hi => hl0.2.2 (i, v) (by
      match i, hi with
      | 0, hi => cases hi; exact List.mem_cons_self
      | 1, hi => cases hi
      | 2, hi => cases hi
      | 3, hi => cases hi
      | 4, hi => cases hi
      | 5, hi => cases hi
      | 6, hi => cases hi
      | i + 7, hi => simp at hi)⟩
  intro T hT X
  obtain ⟨t, a1, o, b1, b2, ⟨⟨r, w', rfl, hr1, -⟩, -⟩, Ls, ⟨q1, q2, q3⟩, q4⟩ := hW T hT X
  subst hr1
  exact ⟨t, a1, _, b1, b2, rfl, q1, q2, q3.weaken (fun y hy hlt => absurd hlt (Nat.not_lt.mpr (q4 y hy))) (Nat.le_refl _) (Nat.le_refl _)⟩
set_option maxHeartbeats 4000000 in
theorem lw_walk (l : Launch) (hl : l.stackTraces = false) (b : Addr) (xs : List Int32) : MetFree l x (headSpec (Jvm.Cond.code x code maxLocals ret :: tables_1) room_1) (lw_P b xs) (fun _ _ _ _ _ => True) lw_Q := by
  refine MetFree.of_bodyS (code := code) (maxLocals := maxLocals) (ret := ret) (by decide) ?_ ?_
  · intro args s m h hn
    obtain ⟨meth, c, h1, h2, h3, h4, h5, h6, -, -⟩ := Cond.code_spec hn (atoms_spec (ws := Jvm.Cond.code x code maxLocals ret :: tables_1) h _ List.mem_cons_self)
    exact ⟨meth, c, h1, h2, h3, h4, h5, h6⟩
  · intro p e s m args below meth c s₁ B hml0 hP _
    obtain ⟨rfl, hx, hbd, hgv⟩ := hP
    obtain ⟨scr, harrAt, hlist, hof, hsmall⟩ := hx
    obtain ⟨hcb, hkn, -, -⟩ := State.arrayAt?_spec harrAt
    have hown : s.vm.findClass R_law = some m.cls := findClass_of_methodNamed B.named
    have hts0 : ∀ c ∈ (Jvm.Cond.code x code maxLocals ret :: tables_1), c.before #[Value.ref b] s = true := atoms_spec (ws := Jvm.Cond.code x code maxLocals ret :: tables_1) B.pre
    have hts : ∀ w ∈ lw_tbl, w.before #[Value.ref b] s = true := k2_hts_sels lw_privs (fun w hw => hts0 w (List.mem_cons_of_mem _ hw)) lw_privs_ok
    have hml : c.maxLocals = 7 := B.maxLocals_eq (hts0 _ List.mem_cons_self)
    have X₀ : Stand p l e room_1 s m #[Value.ref b] below meth c s₁ [] 0 0 := Stand.of_body B
    have hh0 : s₁.heap = s.heap := by rw [B.state]; rfl
    have hsz : scr.slots.size = xs.length := by rw [← Array.length_toList, hlist, List.length_map]
    have hval : ∀ j : Nat, j < xs.length → scr.slots[j]? = some (.int (xs.getD j 0)) := fun j hj => by
      rw [← Array.getElem?_toList, hlist]
      simp [hj]
    have hbl : b < s.heap.size := (Array.getElem?_eq_some_iff.mp hcb).1
    have hX : va_X b xs.length (fun j => xs.getD j 0) s s.heap := ⟨scr, hcb, hof, hkn, hsz, hval⟩
    have K : W p l e room_1 s m #[Value.ref b] below meth c s₁.heap [] 0 0 (lw_Z below #[Value.ref b] s) (entryFrame m ([Value.ref b] : List Value).toArray 7) := by
      rw [hh0]
      exact whole_start l hl hbd ⟨B.exec, B.bytes, B.returns, hml, hown, hts, hX, hbl, B.notSynchronized, hgv⟩
    obtain ⟨t, a1, o, b1, b2, b3⟩ := K s₁ rfl X₀
    exact ⟨t, o, a1, b1, b2, b3⟩
theorem lw_pre_spec {args : Array Value} {s : State} (h : (Jvm.Cond.and given_1 narrow_1).before args s = true) (hr : rest_1_c.before args s = true) : ∃ (b : Addr) (xs : List Int32), lw_P b xs args s := by
  have hs := flat_of_before _ h
  have hq := flat_of_before _ hr
  have hc : (Cond.count 1).before args s = true := hs _ (by decide +kernel)
  have harr : (Cond.arrayOf (.arg 0) .int).before args s = true := hs _ (by decide +kernel)
  have hle : (Cond.le (.length (.arg 0)) (.int 2560)).before args s = true := hs _ (by decide +kernel)
  have hlen : (Cond.isInt (.length (.arg 0))).before args s = true := hq _ (by decide +kernel)
  have hall : (Cond.all (.arg 0) (.isInt (.elem (.arg 0) (.index 0)))).before args s = true := hq _ (by decide +kernel)
  obtain ⟨b, xs, hb, hx⟩ := State.ints_of_pre rfl harr hlen hall
  have hsm : xs.length < 2 ^ 31 := hx.choose_spec.2.2.2
  have hev : (Term.length (.arg 0)).eval args s none [] s = some (.int xs.length.toInt32) := hx.length_eval hb
  have hv := Cond.le_ints hev (show (Term.int 2560).eval args s none [] s = some (.int 2560) from rfl)
  have hd : xs.length.toInt32 ≤ 2560 := by
    simpa [Cond.before, Cond.holds, hv] using hle
  have hN : xs.length ≤ 2560 := (Int32.ofNat_le_ofNat hsm (by decide)).mp (show Int32.ofNat xs.length ≤ Int32.ofNat 2560 from hd)
  exact ⟨b, xs, Cond.one_arg hc (show args[0]? = some (.ref b) from hb), hx, hN, h⟩
theorem lw_comes (l : Launch) (hl : l.stackTraces = false) : Comes l x (Jvm.Cond.code x code maxLocals ret :: tables_1) room_1 (fun tb e args s => Calls_1 tb e args s ∧ rest_1 tb e args s ∧ Pre_1 tb e args s)
    (fun _ _ args s o t => lw_Q args s o t) := by
  intro p e ha hc hk s m args below hf hfit hheap happ hpre
  obtain ⟨b, xs, hP⟩ := lw_pre_spec hpre.2.2 hpre.2.1
  obtain ⟨k, o, h1, h2, h3, hQ⟩ := lw_walk l hl b xs p e ha hc hk s m args below hf ((Spec.applies_iff_loose hf).mp happ).1 hP trivial
  exact ⟨k, o, h1, h2, h3, hQ⟩
theorem lw_frame {s t : State} {o : Outcome} {args : Array Value} (h : Framed s o t [] 601024 7293034) :
    Framed s o t (fieldLocs frame_1_writes args s ++ arrayLocs frame_1_arrays args s ++ staticLocs frame_1_statics s) 601024 7293034 := h
theorem lw_limb (L : Cond) (hL : ∀ (args : Array Value) (s t : State), L.after args s (.returned (some (.int 1))) t = true) :
    ArmFor flags0 classFile x code maxLocals ret World_1 tables_1 room_1 Calls_1 rest_1 Pre_1
      (fun tb e a s o t => postC L tb e a s o t ∧ Framed s o t (fieldLocs frame_1_writes a s ++ arrayLocs frame_1_arrays a s ++ staticLocs frame_1_statics s) 601024 7293034) := by
  intro l hfl _ _ p e ha hc hk s m args below hf hfit hheap happ hpre
  have hl : l.stackTraces = false := by
    unfold Launch.stackTraces
    rw [hfl]
    decide +kernel
  obtain ⟨k, o, h1, h2, h3, rfl, hF⟩ := lw_comes l hl p e ha hc hk s m args below hf hfit hheap happ hpre
  exact ⟨k, _, h1, h2, h3, hL args s _, lw_frame hF⟩
theorem i_vc : Claimed_1_1 ∧ Claimed_1_2 := ⟨lw_limb limb_1_1 (fun args s t => by simp [limb_1_1, Cond.after, Cond.holds, Cond.value]), lw_limb limb_1_2 (fun args s t => Cond.after_iff.mpr (by
  first | (rw [show limb_1_2 = Cond.eq .result (.int 1) from rfl, Cond.eq_ints (x := 1) (y := 1) rfl rfl]; simp; done) | (simp [limb_1_2, Cond.value, Term.eval]; done)))⟩
