/-! area AND compare OF A NEW OBJECT, AND THE LAW'S METHODS THAT CATCH -/
abbrev zNas : String := "java/lang/NegativeArraySizeException"
abbrev zIae : String := "java/lang/IllegalArgumentException"
abbrev zUps : List String := ["java/lang/RuntimeException", "java/lang/Exception"]
def wsA : List Cond := .code yX8_area cX8_area 2 (some .int) :: ([.classLink RX8 95 zNas, .initialized zNas, .fieldLink RX8 72 "SortMerge" "areaRows" "I"] ++ wsX80 ++ (vx_atS RX8 99 zNas zUps).filter goodWord)
theorem tkA : z_tab RX8 wsA 2 (some .int) cX8_area 35 tX8_area := z_tab_of (tm := tmX8_area) (by decide +kernel)
theorem dX8_area_0 : decode cX8_area 0 = .ok (.iload_n 1, 1) := by decide +kernel
theorem dX8_area_1 : decode cX8_area 1 = .ok (.ifCond .ge 13, 3) := by decide +kernel
theorem dX8_area_7 : decode cX8_area 7 = .ok (.dup, 1) := by decide +kernel
theorem dX8_compare_0 : decode cX8_compare 0 = .ok (.aload_n 0, 1) := by decide +kernel
theorem dX8_compare_1 : decode cX8_compare 1 = .ok (.iload_n 1, 1) := by decide +kernel
theorem dX8_compare_5 : decode cX8_compare 5 = .ok (.ifCond .eq 11, 3) := by decide +kernel
theorem dX8_compare_19 : decode cX8_compare 19 = .ok (.dup, 1) := by decide +kernel
def z_B (X : String) : List Cond := [.castable X X, .declares (Bundle.initS "java/lang/RuntimeException"), .declares (Bundle.initS "java/lang/Exception"), .declares (Bundle.initS Bundle.tN)]
theorem z_Bok {args : Array Value} {s : State} {X : String} {Ts : List Cond} (hts : ∀ w ∈ Ts, w.before args s = true) (h0 : Cond.instantiable X 6 ∈ Ts) (h1 : Cond.instanceMethod (Bundle.initS "java/lang/RuntimeException") ∈ Ts) (h2 : Cond.code (Bundle.initS "java/lang/RuntimeException") Bundle.six 2 none ∈ Ts) (h3 : Cond.instanceMethod (Bundle.initS "java/lang/Exception") ∈ Ts) (h4 : Cond.code (Bundle.initS "java/lang/Exception") Bundle.six 2 none ∈ Ts) (h5 : Cond.instanceMethod (Bundle.initS Bundle.tN) ∈ Ts) (h6 : Cond.code (Bundle.initS Bundle.tN) LibCode.Throwable.InitS.code 2 none ∈ Ts) : ∀ w ∈ z_B X, w.before args s = true :=
  vx_c (z_castS (hts _ h0)) (vx_c (z_declS (hts _ h1) (hts _ h2)) (vx_c (z_declS (hts _ h3) (hts _ h4)) (vx_c (z_declS (hts _ h5) (hts _ h6)) vx_n)))
theorem z_atA : ∀ x ∈ (vx_atS RX8 99 zNas zUps).filter goodWord, x ∈ wsA := by decide +kernel
theorem z_ngA : ∀ x ∈ (vx_atS RX8 99 zNas zUps).filter (fun w => !goodWord w), x ∈ z_B zNas := by decide +kernel
theorem z_goA : ∀ w ∈ Cond.classLink RX8 95 zNas :: Cond.initialized zNas :: vx_atS RX8 99 zNas zUps, vx_ot w = true := by decide +kernel
theorem z_atC : ∀ x ∈ (vx_atS RX8 209 zIae zUps).filter goodWord, x ∈ wsX8_compare := fun x h => List.mem_cons_of_mem _ (List.mem_append_right _ h)
theorem z_ngC : ∀ x ∈ (vx_atS RX8 209 zIae zUps).filter (fun w => !goodWord w), x ∈ z_B zIae := by decide +kernel
theorem z_goC : ∀ w ∈ Cond.classLink RX8 205 zIae :: Cond.initialized zIae :: vx_atS RX8 209 zIae zUps, vx_ot w = true := by decide +kernel
set_option maxRecDepth 100000 in
set_option maxHeartbeats 1000000 in
theorem c_area (G : zG) (w : zW) (b : Nat) (n : Int32) (h : zFr b w) (hG : G.2.2.2 ≤ w.1) :
    z_MX G yX8_area wsA (zrK 6 1 6 90) 1 6 [.ref b, .int n] w (fun x w' => x = some (.int (zA_area n)) ∧ 0 ≤ n.toInt ∧ zKp b w w') (fun E w' => (E = zNas ∧ n.toInt < 0) ∧ zKp b w w') := by
  have h0 : w.2 b = some _ := h 0 _ rfl
  refine z_mtX (nL := 2) (cc := cX8_area) (ret := some .int) (by decide) rfl (Nat.le_of_ble_eq_true rfl) 0 [some (.ref b), some (.int n)] rfl ?_
  intro Γ C X
  by_cases hn : n.toInt < 0
  · refine z_ild (k := 1) C dX8_area_0 rfl ?_
    refine z_ifge (tgt := 14) C dX8_area_1 (by decide) (fun a => ?_) (fun a => ?_)
    · exfalso
      simp only [zi_le, Int32.reduceToInt] at a
      omega
    · exact z_throw (cls := zNas) (text := "a work area has no rows below 0") (names := zUps) (ik := 95) (is := 97) (ic := 99) C X hG rfl (by decide +kernel) (by decide +kernel) (by decide +kernel) (by decide +kernel) (by decide +kernel) z_atA z_ngA (z_Bok C.1.2.2.2.2 (by decide +kernel) (by decide +kernel) (by decide +kernel) (by decide +kernel) (by decide +kernel) (by decide +kernel) (by decide +kernel)) z_goA dX8_area_4 dX8_area_7 dX8_area_8 dX8_area_10 dX8_area_13 ⟨Nat.le_of_ble_eq_true rfl, Nat.le_of_ble_eq_true rfl⟩ ⟨Nat.le_of_ble_eq_true rfl, Nat.le_of_ble_eq_true rfl⟩ (Nat.le_of_ble_eq_true rfl) (Nat.le_of_ble_eq_true rfl) (fun m hm => ⟨⟨rfl, hn⟩, hm, fun _ _ _ => rfl⟩)
  · refine z_Jret X ?_
    have E := X.2.2.2
    have C' : z_X G cX8_area yX8_area.cls wsA 2 (z_sw Γ (MQ (zbl Γ) (z_Q G (fun x w' => x = some (.int (zA_area n)) ∧ 0 ≤ n.toInt ∧ zKp b w w')) (za Γ) (zs Γ) 1 6 (z_A G))) := C
    have hP : ∀ x w', (x = some (.int (zA_area n)) ∧ 0 ≤ n.toInt ∧ zKp b w w') → (fun x w' => x = some (Value.int (zA_area n)) ∧ 0 ≤ n.toInt ∧ zKp b w w') x w' := fun _ _ h => h
    generalize hQ : (fun x w' => x = some (Value.int (zA_area n)) ∧ 0 ≤ n.toInt ∧ zKp b w w') = P at E C' hP ⊢
    refine z_gn C' E tkA (Nat.zero_le _) (Nat.zero_le _) [4] 60 ?_
    simp only [↓z_rn_s, ↓z_rn_0, ↓zr_in0, ↓zr_ins, ↓zr_inn, ↓zr_bt, ↓zr_bf, ↓zr_li0, ↓zr_lis, ↓zr_la0, ↓zr_las, ↓zr_ll0, ↓zr_lls, ↓zr_1i, ↓zr_1l, ↓zr_1a, ↓zr_2i, ↓zr_2l, ↓zr_lsi, ↓zr_ia, ↓zr_aa, ↓zr_dia, ↓zr_iia, ↓zr_lia, ↓zr_d1i, ↓zr_d1r, ↓zr_e1, ↓zr_e2, ↓zr_e0, ↓zr_f0, ↓zr_fs, ↓zr_s0, ↓zr_ss, ↓zr_len, ↓zr_len0, ↓zr_ok0, ↓zr_okn, ↓zr_oki, ↓zr_okr, ↓zr_oks, ↓zr_tt, ↓zr_ar0u, ↓zr_ar0n, ↓zr_ar1u, ↓zr_ar1n, ↓zr_ar2u, ↓zr_ar2n, ↓zr_obu, ↓zr_obn, ↓Nat.reduceAdd, Nat.reduceEqDiff, Nat.add_left_cancel_iff, not_false_eq_true, z_up_up, true_and, ↓sX8_area_0, ↓sX8_area_1, ↓sX8_area_4, ↓sX8_area_7, ↓sX8_area_8, ↓sX8_area_10, ↓sX8_area_13, ↓sX8_area_14, ↓sX8_area_15, ↓sX8_area_18, ↓sX8_area_19, ↓sX8_area_22, ↓sX8_area_25, ↓sX8_area_27, ↓sX8_area_28, ↓sX8_area_29, ↓sX8_area_30, ↓sX8_area_33, ↓sX8_area_34, ↓zh_ob h0, zn_a, zn_b, zq1, zq2, zq3, zq4, zq5, zq6, zq7, eq_self, Int32.reduceLT, Int32.reduceLE, Int32.reduceAdd, not_true_eq_false, not_false_eq_true, false_implies, true_implies, and_true, true_and, or_true, true_or]
    repeat' first | refine And.intro ?_ ?_ | (show _ → _; intro _)
    all_goals try simp only [zi_lt, zi_le, zi_eq, Int32.reduceToInt] at *
    all_goals first
      | (exfalso; omega)
      | exact hP _ _ ⟨by (unfold zA_area; rw [if_neg (by omega)]; first | rw [if_pos (by omega)] | rw [if_neg (by omega)]), by omega, zKp.rf b w⟩
      | exact hP _ _ ⟨by (unfold zA_area; rw [if_neg (by omega)]; first | rw [if_pos (by omega)] | rw [if_neg (by omega)]), by omega, zKp.up (zKp.rf b w) _ _ (by omega)⟩
set_option maxRecDepth 100000 in
set_option maxHeartbeats 1000000 in
theorem c_compare (G : zG) (w : zW) (b : Nat) (p q : Int32) (h : zFr b w) (hG : G.2.2.2 ≤ w.1) :
    z_MX G yX8_compare wsX8_compare (zrK 6 1 6 90) 1 6 [.ref b, .int p, .int q] w (fun _ _ => False) (fun E w' => E = zIae ∧ zKp b w w') := by
  have h0 : w.2 b = some _ := h 0 _ rfl
  refine z_mtX (nL := 3) (cc := cX8_compare) (ret := some .int) (by decide) rfl (Nat.le_of_ble_eq_true rfl) 0 [some (.ref b), some (.int p), some (.int q)] rfl ?_
  intro Γ C X
  refine z_ald (k := 0) C dX8_compare_0 rfl ?_
  refine z_ild (k := 1) C dX8_compare_1 rfl ?_
  refine z_callVr (n := 1) (As := [.int p]) (rest := []) C X.1 (c_isRecord G w b p h) gX8_compare_X8_isRecord rfl rfl rfl (by decide +kernel) (by decide) dX8_compare_2 rfl ⟨Nat.zero_le _, Nat.zero_le _⟩ (Nat.le_of_ble_eq_true rfl) rfl h0 ?_
  rintro x w1 ⟨rfl, hw1⟩
  rw [hw1]
  simp only [Option.toList, List.cons_append, List.nil_append]
  refine z_ifeq (tgt := 16) C dX8_compare_5 (by decide) (fun a => ?_) (fun a => absurd rfl a)
  exact z_throw (cls := zIae) (text := "no such record") (names := zUps) (ik := 205) (is := 207) (ic := 209) C X hG rfl (by decide +kernel) (by decide +kernel) (by decide +kernel) (by decide +kernel) (by decide +kernel) z_atC z_ngC (z_Bok C.1.2.2.2.2 (by decide +kernel) (by decide +kernel) (by decide +kernel) (by decide +kernel) (by decide +kernel) (by decide +kernel) (by decide +kernel)) z_goC dX8_compare_16 dX8_compare_19 dX8_compare_20 dX8_compare_22 dX8_compare_25 ⟨Nat.le_of_ble_eq_true rfl, Nat.le_of_ble_eq_true rfl⟩ ⟨Nat.le_of_ble_eq_true rfl, Nat.le_of_ble_eq_true rfl⟩ (Nat.le_of_ble_eq_true rfl) (Nat.le_of_ble_eq_true rfl) (fun m hm => ⟨rfl, hm, fun _ _ _ => rfl⟩)
def wsLA : List Cond := .codeWith yL_area cL_area 4 (some .int) [(0, 9, 12, 13)] :: ([.methodLink RL 7 yX8_area, .instanceMethod yX8_area, .selects RX8 yX8_area yX8_area, .initialized RX8, .classLink RL 13 zNas] ++ wsA)
theorem tkLA : z_tab RL wsLA 4 (some .int) cL_area 17 tL_area := z_tab_of (tm := tmL_area) (by decide +kernel)
theorem ggLA : GoodIn wsLA wsA := goodIn_sub (fun _ h => List.mem_cons_of_mem _ (List.mem_append_right _ h)) (by decide +kernel)
theorem gLA : GoodIn wsLA (wsV RL 7 RX8 yX8_area wsA) := goodIn_app (goodIn_of _ (by decide +kernel)) ggLA
/-- what the law's catchers leave: all but the class and the answer's place as it was -/
def zKo (b o : Nat) (w w' : zW) : Prop := w.1 ≤ w'.1 ∧ ∀ k, b + 32 ≤ k → k < w.1 → k ≠ o → w'.2 k = w.2 k
theorem zKp.o {b : Nat} {w w' : zW} (h : zKp b w w') (o : Nat) : zKo b o w w' := ⟨h.1, fun k h1 h2 _ => h.2 k h1 h2⟩
theorem zKo.up {b o : Nat} {w w' : zW} (h : zKo b o w w') (c : zC) : zKo b o w (z_up w' o c) := ⟨h.1, fun k h1 h2 h3 => by
  rw [z_up_2, if_neg h3]
  exact h.2 k h1 h2 h3⟩
theorem z_mtWP {G : zG} {y : MethodName} {ws ws' : List Cond} {rm : Room} {mc ms : Nat} {av : List Value} {w : zW} {Post : Option Value → zW → Prop} {cc : ByteArray} {nL : Nat} {ret : Option FieldType} {hh : List (Nat × Nat × Nat × Nat)}
    (hy : plainName y.cls = true) (hw : ws = Cond.codeWith y cc nL ret hh :: ws') (hlen : (lg_sl av).length ≤ nL) (k : Nat) (lv : zL) (hlv : z_ent av ++ List.replicate k none = lv)
    (body : ∀ P : Option Value → zW → Prop, (∀ x w', Post x w' → P x w') → ∀ Γ : zΓ, z_X G cc y.cls ws nL Γ → z_E G rm mc ms y.name ret P Γ → (zc Γ).exceptionTable.toList = tableOf hh → z_J G nL Γ w 0 0 0 lv []) : z_M G y ws rm mc ms av w Post :=
  z_mtW hy hw hlen k lv hlv (body Post (fun _ _ h => h))
set_option maxRecDepth 100000 in
set_option maxHeartbeats 1000000 in
theorem l_area (G : zG) (w : zW) (b o : Nat) (n : Int32) (h : zFr b w) (hG : G.2.2.2 ≤ w.1) (f : Nat → Int64) (ho : w.2 o = some (.inl (2, 1, .inr (.inl f)))) (ho1 : b + 32 ≤ o) (ho2 : o < w.1) :
    z_M G yL_area wsLA (zrK 7 1 6 130) 1 6 [.ref b, .int n, .ref o] w (fun x w' => x = some (.int (zT_area n)) ∧ zKo b o w w' ∧ (0 ≤ n.toInt → ∃ g, w'.2 o = some (.inl (2, 1, .inr (.inl g))) ∧ g 0 = (zA_area n).toInt64)) := by
  have h0 : w.2 b = some _ := h 0 _ rfl
  refine z_mtWP (nL := 4) (cc := cL_area) (ret := some .int) (hh := [(0, 9, 12, 13)]) (by decide) rfl (Nat.le_of_ble_eq_true rfl) 1 [some (.ref b), some (.int n), some (.ref o), none] rfl ?_
  intro P hP Γ C E htb
  refine z_gn C E tkLA (Nat.zero_le _) (Nat.zero_le _) [] 60 ?_
  simp only [↓z_rn_s, ↓z_rn_0, ↓zr_in0, ↓zr_ins, ↓zr_inn, ↓zr_bt, ↓zr_bf, ↓zr_li0, ↓zr_lis, ↓zr_la0, ↓zr_las, ↓zr_ll0, ↓zr_lls, ↓zr_1i, ↓zr_1l, ↓zr_1a, ↓zr_2i, ↓zr_2l, ↓zr_lsi, ↓zr_ia, ↓zr_aa, ↓zr_dia, ↓zr_iia, ↓zr_lia, ↓zr_d1i, ↓zr_d1r, ↓zr_e1, ↓zr_e2, ↓zr_e0, ↓zr_f0, ↓zr_fs, ↓zr_s0, ↓zr_ss, ↓zr_len, ↓zr_len0, ↓zr_ok0, ↓zr_okn, ↓zr_oki, ↓zr_okr, ↓zr_oks, ↓zr_tt, ↓zr_ar0u, ↓zr_ar0n, ↓zr_ar1u, ↓zr_ar1n, ↓zr_ar2u, ↓zr_ar2n, ↓zr_obu, ↓zr_obn, ↓Nat.reduceAdd, Nat.reduceEqDiff, Nat.add_left_cancel_iff, not_false_eq_true, z_up_up, true_and, ↓sL_area_0, ↓sL_area_1, ↓sL_area_2, ↓sL_area_3, ↓sL_area_4, ↓sL_area_7, ↓sL_area_8, ↓sL_area_9, ↓sL_area_12, ↓sL_area_13, ↓sL_area_14, ↓sL_area_15, ↓sL_area_16]
  refine z_callVX (n := 1) (As := [.int n]) (rest := [.int 0, .ref o]) (x := ⟨0, 9, 12, 13⟩) (cls := zNas) C E htb (by decide) (by decide) (by decide +kernel) (by decide +kernel) (c_area G w b n h hG) (fun _ _ h => h.1.1) gLA rfl rfl rfl (by decide +kernel) (by decide) dL_area_4 rfl ⟨Nat.le_of_ble_eq_true rfl, Nat.le_of_ble_eq_true rfl⟩ (Nat.le_of_ble_eq_true rfl) rfl h0 ?_ ?_
  · rintro q w1 ⟨⟨-, hn⟩, hk⟩
    refine z_gn C E tkLA (Nat.le_of_ble_eq_true rfl) (Nat.le_of_ble_eq_true rfl) [] 60 ?_
    simp only [↓z_rn_s, ↓z_rn_0, ↓zr_in0, ↓zr_ins, ↓zr_inn, ↓zr_bt, ↓zr_bf, ↓zr_li0, ↓zr_lis, ↓zr_la0, ↓zr_las, ↓zr_ll0, ↓zr_lls, ↓zr_1i, ↓zr_1l, ↓zr_1a, ↓zr_2i, ↓zr_2l, ↓zr_lsi, ↓zr_ia, ↓zr_aa, ↓zr_dia, ↓zr_iia, ↓zr_lia, ↓zr_d1i, ↓zr_d1r, ↓zr_e1, ↓zr_e2, ↓zr_e0, ↓zr_f0, ↓zr_fs, ↓zr_s0, ↓zr_ss, ↓zr_len, ↓zr_len0, ↓zr_ok0, ↓zr_okn, ↓zr_oki, ↓zr_okr, ↓zr_oks, ↓zr_tt, ↓zr_ar0u, ↓zr_ar0n, ↓zr_ar1u, ↓zr_ar1n, ↓zr_ar2u, ↓zr_ar2n, ↓zr_obu, ↓zr_obn, ↓Nat.reduceAdd, Nat.reduceEqDiff, Nat.add_left_cancel_iff, not_false_eq_true, z_up_up, true_and, ↓sL_area_0, ↓sL_area_1, ↓sL_area_2, ↓sL_area_3, ↓sL_area_4, ↓sL_area_7, ↓sL_area_8, ↓sL_area_9, ↓sL_area_12, ↓sL_area_13, ↓sL_area_14, ↓sL_area_15, ↓sL_area_16]
    exact hP _ _ ⟨by unfold zT_area; rw [if_pos hn], hk.o o, fun h => absurd hn (by omega)⟩
  · rintro x w1 ⟨rfl, hn, hk⟩
    simp only [Option.toList, List.cons_append, List.nil_append]
    have g1 := (hk.2 o ho1 ho2).trans ho
    refine z_gn C E tkLA (Nat.le_of_ble_eq_true rfl) (Nat.le_of_ble_eq_true rfl) [] 60 ?_
    simp only [↓z_rn_s, ↓z_rn_0, ↓zr_in0, ↓zr_ins, ↓zr_inn, ↓zr_bt, ↓zr_bf, ↓zr_li0, ↓zr_lis, ↓zr_la0, ↓zr_las, ↓zr_ll0, ↓zr_lls, ↓zr_1i, ↓zr_1l, ↓zr_1a, ↓zr_2i, ↓zr_2l, ↓zr_lsi, ↓zr_ia, ↓zr_aa, ↓zr_dia, ↓zr_iia, ↓zr_lia, ↓zr_d1i, ↓zr_d1r, ↓zr_e1, ↓zr_e2, ↓zr_e0, ↓zr_f0, ↓zr_fs, ↓zr_s0, ↓zr_ss, ↓zr_len, ↓zr_len0, ↓zr_ok0, ↓zr_okn, ↓zr_oki, ↓zr_okr, ↓zr_oks, ↓zr_tt, ↓zr_ar0u, ↓zr_ar0n, ↓zr_ar1u, ↓zr_ar1n, ↓zr_ar2u, ↓zr_ar2n, ↓zr_obu, ↓zr_obn, ↓Nat.reduceAdd, Nat.reduceEqDiff, Nat.add_left_cancel_iff, not_false_eq_true, z_up_up, true_and, ↓sL_area_0, ↓sL_area_1, ↓sL_area_2, ↓sL_area_3, ↓sL_area_4, ↓sL_area_7, ↓sL_area_8, ↓sL_area_9, ↓sL_area_12, ↓sL_area_13, ↓sL_area_14, ↓sL_area_15, ↓sL_area_16, ↓zh_ar2 g1]
    refine ⟨vp_in_iff.mpr (by decide), hP _ _ ⟨by unfold zT_area; rw [if_neg (by omega)], (hk.o o).up _, fun _ => ⟨_, by rw [z_up_2, if_pos rfl], ?_⟩⟩⟩
    simp [vp_updL]
set_option maxRecDepth 100000 in
set_option maxHeartbeats 1000000 in
theorem l_sort (G : zG) (w : zW) (b o : Nat) (n : Int32) (h : zFr b w) (f : Nat → Int64) (ho : w.2 o = some (.inl (2, 1, .inr (.inl f)))) (ho1 : b + 32 ≤ o) (ho2 : o < w.1) :
    z_M G yL_sort wsL_sort zrm1 0 0 [.ref b, .int n, .ref o] w (fun x w' => x = some (.int 0) ∧ zKo b o w w' ∧ ∃ g, w'.2 o = some (.inl (2, 1, .inr (.inl g))) ∧ g 0 = (-5 : Int32).toInt64) := by
  have h0 : w.2 b = some _ := h 0 _ rfl
  refine z_mtWP (nL := 4) (cc := cL_sort) (ret := some .int) (hh := [(0, 9, 12, 19)]) (by decide) rfl (Nat.le_of_ble_eq_true rfl) 1 [some (.ref b), some (.int n), some (.ref o), none] rfl ?_
  intro P hP Γ C E htb
  refine z_gn C E tkL_sort (Nat.zero_le _) (Nat.zero_le _) [] 60 ?_
  simp only [↓z_rn_s, ↓z_rn_0, ↓zr_in0, ↓zr_ins, ↓zr_inn, ↓zr_bt, ↓zr_bf, ↓zr_li0, ↓zr_lis, ↓zr_la0, ↓zr_las, ↓zr_ll0, ↓zr_lls, ↓zr_1i, ↓zr_1l, ↓zr_1a, ↓zr_2i, ↓zr_2l, ↓zr_lsi, ↓zr_ia, ↓zr_aa, ↓zr_dia, ↓zr_iia, ↓zr_lia, ↓zr_d1i, ↓zr_d1r, ↓zr_e1, ↓zr_e2, ↓zr_e0, ↓zr_f0, ↓zr_fs, ↓zr_s0, ↓zr_ss, ↓zr_len, ↓zr_len0, ↓zr_ok0, ↓zr_okn, ↓zr_oki, ↓zr_okr, ↓zr_oks, ↓zr_tt, ↓zr_ar0u, ↓zr_ar0n, ↓zr_ar1u, ↓zr_ar1n, ↓zr_ar2u, ↓zr_ar2n, ↓zr_obu, ↓zr_obn, ↓Nat.reduceAdd, Nat.reduceEqDiff, Nat.add_left_cancel_iff, not_false_eq_true, z_up_up, true_and, ↓sL_sort_0, ↓sL_sort_1, ↓sL_sort_2, ↓sL_sort_3, ↓sL_sort_4, ↓sL_sort_7, ↓sL_sort_8, ↓sL_sort_9, ↓sL_sort_12, ↓sL_sort_13, ↓sL_sort_14, ↓sL_sort_15, ↓sL_sort_16]
  refine z_callV (n := 1) (As := [.int n]) (rest := [.int 0, .ref o]) C E (c_sort G w b n h) gL_sort_X8_sort rfl rfl rfl (by decide +kernel) (by decide) dL_sort_4 rfl ⟨Nat.zero_le _, Nat.zero_le _⟩ (Nat.le_of_ble_eq_true rfl) rfl h0 ?_
  rintro x w1 ⟨rfl, hk⟩
  simp only [Option.toList, List.cons_append, List.nil_append]
  have g1 := (hk.2 o ho1 ho2).trans ho
  refine z_gn C E tkL_sort (Nat.zero_le _) (Nat.zero_le _) [] 60 ?_
  simp only [↓z_rn_s, ↓z_rn_0, ↓zr_in0, ↓zr_ins, ↓zr_inn, ↓zr_bt, ↓zr_bf, ↓zr_li0, ↓zr_lis, ↓zr_la0, ↓zr_las, ↓zr_ll0, ↓zr_lls, ↓zr_1i, ↓zr_1l, ↓zr_1a, ↓zr_2i, ↓zr_2l, ↓zr_lsi, ↓zr_ia, ↓zr_aa, ↓zr_dia, ↓zr_iia, ↓zr_lia, ↓zr_d1i, ↓zr_d1r, ↓zr_e1, ↓zr_e2, ↓zr_e0, ↓zr_f0, ↓zr_fs, ↓zr_s0, ↓zr_ss, ↓zr_len, ↓zr_len0, ↓zr_ok0, ↓zr_okn, ↓zr_oki, ↓zr_okr, ↓zr_oks, ↓zr_tt, ↓zr_ar0u, ↓zr_ar0n, ↓zr_ar1u, ↓zr_ar1n, ↓zr_ar2u, ↓zr_ar2n, ↓zr_obu, ↓zr_obn, ↓Nat.reduceAdd, Nat.reduceEqDiff, Nat.add_left_cancel_iff, not_false_eq_true, z_up_up, true_and, ↓sL_sort_0, ↓sL_sort_1, ↓sL_sort_2, ↓sL_sort_3, ↓sL_sort_4, ↓sL_sort_7, ↓sL_sort_8, ↓sL_sort_9, ↓sL_sort_12, ↓sL_sort_13, ↓sL_sort_14, ↓sL_sort_15, ↓sL_sort_16, ↓zh_ar2 g1]
  refine ⟨vp_in_iff.mpr (by decide), hP _ _ ⟨rfl, (hk.o o).up _, ⟨_, by rw [z_up_2, if_pos rfl], ?_⟩⟩⟩
  simp [vp_updL]
set_option maxRecDepth 100000 in
set_option maxHeartbeats 1000000 in
theorem l_compare (G : zG) (w : zW) (b o : Nat) (p q : Int32) (h : zFr b w) (hG : G.2.2.2 ≤ w.1) :
    z_M G yL_compare wsL_compare (zrK 7 1 6 130) 1 6 [.ref b, .int p, .int q, .ref o] w (fun x w' => x = some (.int 1) ∧ zKo b o w w') := by
  have h0 : w.2 b = some _ := h 0 _ rfl
  refine z_mtWP (nL := 5) (cc := cL_compare) (ret := some .int) (hh := [(0, 10, 13, 25)]) (by decide) rfl (Nat.le_of_ble_eq_true rfl) 1 [some (.ref b), some (.int p), some (.int q), some (.ref o), none] rfl ?_
  intro P hP Γ C E htb
  refine z_gn C E tkL_compare (Nat.zero_le _) (Nat.zero_le _) [] 60 ?_
  simp only [↓z_rn_s, ↓z_rn_0, ↓zr_in0, ↓zr_ins, ↓zr_inn, ↓zr_bt, ↓zr_bf, ↓zr_li0, ↓zr_lis, ↓zr_la0, ↓zr_las, ↓zr_ll0, ↓zr_lls, ↓zr_1i, ↓zr_1l, ↓zr_1a, ↓zr_2i, ↓zr_2l, ↓zr_lsi, ↓zr_ia, ↓zr_aa, ↓zr_dia, ↓zr_iia, ↓zr_lia, ↓zr_d1i, ↓zr_d1r, ↓zr_e1, ↓zr_e2, ↓zr_e0, ↓zr_f0, ↓zr_fs, ↓zr_s0, ↓zr_ss, ↓zr_len, ↓zr_len0, ↓zr_ok0, ↓zr_okn, ↓zr_oki, ↓zr_okr, ↓zr_oks, ↓zr_tt, ↓zr_ar0u, ↓zr_ar0n, ↓zr_ar1u, ↓zr_ar1n, ↓zr_ar2u, ↓zr_ar2n, ↓zr_obu, ↓zr_obn, ↓Nat.reduceAdd, Nat.reduceEqDiff, Nat.add_left_cancel_iff, not_false_eq_true, z_up_up, true_and, ↓sL_compare_0, ↓sL_compare_1, ↓sL_compare_2, ↓sL_compare_3, ↓sL_compare_4, ↓sL_compare_5, ↓sL_compare_8, ↓sL_compare_9, ↓sL_compare_10, ↓sL_compare_13, ↓sL_compare_15, ↓sL_compare_16, ↓sL_compare_17, ↓sL_compare_18]
  refine z_callVX (n := 2) (As := [.int p, .int q]) (rest := [.int 0, .ref o]) (x := ⟨0, 10, 13, 25⟩) (cls := zIae) C E htb (by decide) (by decide) (by decide +kernel) (by decide +kernel) (c_compare G w b p q h hG) (fun _ _ h => h.1) gL_compare_X8_compare rfl rfl rfl (by decide +kernel) (by decide) dL_compare_5 rfl ⟨Nat.le_of_ble_eq_true rfl, Nat.le_of_ble_eq_true rfl⟩ (Nat.le_of_ble_eq_true rfl) rfl h0 ?_ ?_
  · rintro q w1 ⟨-, hk⟩
    refine z_gn C E tkL_compare (Nat.le_of_ble_eq_true rfl) (Nat.le_of_ble_eq_true rfl) [] 60 ?_
    simp only [↓z_rn_s, ↓z_rn_0, ↓zr_in0, ↓zr_ins, ↓zr_inn, ↓zr_bt, ↓zr_bf, ↓zr_li0, ↓zr_lis, ↓zr_la0, ↓zr_las, ↓zr_ll0, ↓zr_lls, ↓zr_1i, ↓zr_1l, ↓zr_1a, ↓zr_2i, ↓zr_2l, ↓zr_lsi, ↓zr_ia, ↓zr_aa, ↓zr_dia, ↓zr_iia, ↓zr_lia, ↓zr_d1i, ↓zr_d1r, ↓zr_e1, ↓zr_e2, ↓zr_e0, ↓zr_f0, ↓zr_fs, ↓zr_s0, ↓zr_ss, ↓zr_len, ↓zr_len0, ↓zr_ok0, ↓zr_okn, ↓zr_oki, ↓zr_okr, ↓zr_oks, ↓zr_tt, ↓zr_ar0u, ↓zr_ar0n, ↓zr_ar1u, ↓zr_ar1n, ↓zr_ar2u, ↓zr_ar2n, ↓zr_obu, ↓zr_obn, ↓Nat.reduceAdd, Nat.reduceEqDiff, Nat.add_left_cancel_iff, not_false_eq_true, z_up_up, true_and, ↓sL_compare_0, ↓sL_compare_1, ↓sL_compare_2, ↓sL_compare_3, ↓sL_compare_4, ↓sL_compare_5, ↓sL_compare_8, ↓sL_compare_9, ↓sL_compare_10, ↓sL_compare_13, ↓sL_compare_15, ↓sL_compare_16, ↓sL_compare_17, ↓sL_compare_18]
    exact hP _ _ ⟨rfl, hk.o o⟩
  · rintro x w1 hf
    exact hf.elim
