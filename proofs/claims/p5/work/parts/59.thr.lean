/-! THE LAW'S METHODS THAT CATCH, OVER ANY STATE -/
def wsLA : List Cond := .codeWith yL_area cL_area 4 (some .int) [(0, 9, 12, 13)] :: ([.methodLink RL 7 yX8_area, .instanceMethod yX8_area, .selects RX8 yX8_area yX8_area, .initialized RX8, .classLink RL 13 zNas] ++ wsA)
theorem tkLA : z_tab RL wsLA 4 (some .int) cL_area 17 tL_area := z_tab_of (tm := tmL_area) (by decide +kernel)
theorem ggLA : GoodIn wsLA wsA := goodIn_sub (fun _ h => List.mem_cons_of_mem _ (List.mem_append_right _ h)) (by decide +kernel)
theorem gLA : GoodIn wsLA (wsV RL 7 RX8 yX8_area wsA) := goodIn_app (goodIn_of _ (by decide +kernel)) ggLA
def zT_area (n : Int32) : Int32 := if n.toInt < 0 then 1 else 0
/-- the answer's place -/
def zO (b : Nat) (w : zW) : Prop := ∃ f, w.2 (b + 53) = some (.inl (2, 1, .inr (.inl f)))
/-- what the law's catchers leave: all but the class and the answer's place as it was -/
def zKo (b : Nat) (w w' : zW) : Prop := w.1 ≤ w'.1 ∧ ∀ k, b + 32 ≤ k → k ≠ b + 53 → w'.2 k = w.2 k
theorem zKc.o {b : Nat} {w w' : zW} (h : zKc b w w') : zKo b w w' := ⟨h.1, fun k h1 _ => h.2 k h1⟩
theorem zKo.up {b : Nat} {w w' : zW} (h : zKo b w w') (c : zC) : zKo b w (z_up w' (b + 53) c) := ⟨h.1, fun k h1 h3 => by
  rw [z_up_2, if_neg h3]
  exact h.2 k h1 h3⟩
theorem zO.kc {b : Nat} {w w' : zW} (h : zO b w) (k : zKc b w w') : zO b w' := ⟨h.choose, (k.2 _ (by omega)).trans h.choose_spec⟩
/-- nothing of the class has changed -/
theorem zCl.fs {b : Nat} {w w' : zW} {wy rc su : Int32} {fl : Nat → Int32} (h : zCl b w wy rc su fl) (S : List Nat) (hf : z_fr S w w') (hS : ∀ k ∈ S, b + 32 ≤ k) : zCl b w' wy rc su fl := by
  obtain ⟨⟨rel, ar, st, tk, hd, fa, t1, t2, h0, hok⟩, ⟨r1, r2, ⟨td, r3⟩, ⟨he, rn, as, r4⟩, r5, r6, r7, r8, r9, r10, r11, r12⟩⟩ := h
  have n : ∀ k, k < b + 32 → k ∉ S := fun k hk hm => by have := hS k hm; omega
  exact ⟨⟨rel, ar, st, tk, hd, fa, t1, t2, (hf.2 b (n _ (by omega))).trans h0, hok⟩, ⟨r1.fr _ hf ⟨n _ (by omega), n _ (by omega), n _ (by omega), n _ (by omega)⟩, r2.fr _ hf ⟨n _ (by omega), n _ (by omega), n _ (by omega), n _ (by omega)⟩, ⟨td, r3.fr _ hf (fun k hk => by have := hS k hk; omega)⟩, ⟨he, rn, as, r4.fr _ hf (fun k hk => by have := hS k hk; omega)⟩, r5.fr _ hf (n _ (by omega)), r6.fr _ hf (fun k hk => by have := hS k hk; omega), r7.fr _ hf (n _ (by omega)), r8.fr _ hf (n _ (by omega)), r9.fr _ hf (fun k hk => by have := hS k hk; omega), r10.fr _ hf (n _ (by omega)), r11.fr _ hf (n _ (by omega)), r12.fr _ hf (n _ (by omega))⟩⟩
theorem zCl.uo {b : Nat} {w : zW} {wy rc su : Int32} {fl : Nat → Int32} (h : zCl b w wy rc su fl) (c : zC) : zCl b (z_up w (b + 53) c) wy rc su fl := h.fs [b + 53] ((z_fr.rf _ _).up _ _ (by simp)) (fun k hk => by simp at hk; omega)
theorem z_mtWP {G : zG} {y : MethodName} {ws ws' : List Cond} {rm : Room} {mc ms : Nat} {av : List Value} {w : zW} {Post : Option Value → zW → Prop} {cc : ByteArray} {nL : Nat} {ret : Option FieldType} {hh : List (Nat × Nat × Nat × Nat)}
    (hy : plainName y.cls = true) (hw : ws = Cond.codeWith y cc nL ret hh :: ws') (hlen : (lg_sl av).length ≤ nL) (k : Nat) (lv : zL) (hlv : z_ent av ++ List.replicate k none = lv)
    (body : ∀ P : Option Value → zW → Prop, (∀ x w', Post x w' → P x w') → ∀ Γ : zΓ, z_X G cc y.cls ws nL Γ → z_E G rm mc ms y.name ret P Γ → (zc Γ).exceptionTable.toList = tableOf hh → z_J G nL Γ w 0 0 0 lv []) : z_M G y ws rm mc ms av w Post :=
  z_mtW hy hw hlen k lv hlv (body Post (fun _ _ h => h))
set_option maxRecDepth 100000 in
set_option maxHeartbeats 1000000 in
theorem l_area (G : zG) (w : zW) (b : Nat) (n : Int32) (wy rc su : Int32) (fl : Nat → Int32) (h : zCl b w wy rc su fl) (hG : G.2.2.2 ≤ w.1) (ho : zO b w) :
    z_M G yL_area wsLA (zrK 7 1 6 130) 1 6 [.ref b, .int n, .ref (b + 53)] w (fun x w' => x = some (.int (zT_area n)) ∧ zKo b w w' ∧ zCl b w' wy rc su fl ∧ ∃ g, w'.2 (b + 53) = some (.inl (2, 1, .inr (.inl g))) ∧ (0 ≤ n.toInt → g 0 = (zA_area n).toInt64)) := by
  obtain ⟨⟨_, _, _, _, _, _, _, _, h0, _⟩, _⟩ := id h
  unfold zSM at h0
  refine z_mtWP (nL := 4) (cc := cL_area) (ret := some .int) (hh := [(0, 9, 12, 13)]) (by decide) rfl (Nat.le_of_ble_eq_true rfl) 1 [some (.ref b), some (.int n), some (.ref (b + 53)), none] rfl ?_
  intro P hP Γ C E htb
  refine z_gn C E tkLA (Nat.zero_le _) (Nat.zero_le _) [] 60 ?_
  simp only [↓z_rn_f, ↓z_rn_t, ↓z_rn_0, ↓zr_in0, ↓zr_ins, ↓zr_inn, ↓zr_bt, ↓zr_bf, ↓zr_li0, ↓zr_lis, ↓zr_la0, ↓zr_las, ↓zr_ll0, ↓zr_lls, ↓zr_1i, ↓zr_1l, ↓zr_1a, ↓zr_2i, ↓zr_2l, ↓zr_lsi, ↓zr_ia, ↓zr_aa, ↓zr_dia, ↓zr_iia, ↓zr_lia, ↓zr_d1i, ↓zr_d1r, ↓zr_e1, ↓zr_e2, ↓zr_e0, ↓zr_f0, ↓zr_fs, ↓zr_s0, ↓zr_ss, ↓zr_len, ↓zr_len0, ↓zr_ok0, ↓zr_okn, ↓zr_oki, ↓zr_okr, ↓zr_oks, ↓zr_tt, ↓zr_ar0u, ↓zr_ar0n, ↓zr_ar1u, ↓zr_ar1n, ↓zr_ar2u, ↓zr_ar2n, ↓zr_obu, ↓zr_obn, ↓Nat.reduceAdd, Nat.reduceEqDiff, Nat.add_left_cancel_iff, not_false_eq_true, z_up_up, true_and, ↓sL_area_0, ↓sL_area_1, ↓sL_area_2, ↓sL_area_3, ↓sL_area_4, ↓sL_area_7, ↓sL_area_8, ↓sL_area_9, ↓sL_area_12, ↓sL_area_13, ↓sL_area_14, ↓sL_area_15, ↓sL_area_16]
  refine z_callVX (n := 1) (As := [.int n]) (rest := [.int 0, .ref (b + 53)]) (x := ⟨0, 9, 12, 13⟩) (cls := zNas) C E htb (by decide) (by decide) (by decide +kernel) (by decide +kernel) (k_area G w b n wy rc su fl h hG) (fun _ _ h => h.1) gLA rfl rfl rfl (by decide +kernel) (by decide) dL_area_4 rfl ⟨Nat.le_of_ble_eq_true rfl, Nat.le_of_ble_eq_true rfl⟩ (Nat.le_of_ble_eq_true rfl) rfl h0 ?_ ?_
  · rintro q w1 ⟨-, hn, hk, hc⟩
    refine z_gn C E tkLA (Nat.le_of_ble_eq_true rfl) (Nat.le_of_ble_eq_true rfl) [] 60 ?_
    simp only [↓z_rn_f, ↓z_rn_t, ↓z_rn_0, ↓zr_in0, ↓zr_ins, ↓zr_inn, ↓zr_bt, ↓zr_bf, ↓zr_li0, ↓zr_lis, ↓zr_la0, ↓zr_las, ↓zr_ll0, ↓zr_lls, ↓zr_1i, ↓zr_1l, ↓zr_1a, ↓zr_2i, ↓zr_2l, ↓zr_lsi, ↓zr_ia, ↓zr_aa, ↓zr_dia, ↓zr_iia, ↓zr_lia, ↓zr_d1i, ↓zr_d1r, ↓zr_e1, ↓zr_e2, ↓zr_e0, ↓zr_f0, ↓zr_fs, ↓zr_s0, ↓zr_ss, ↓zr_len, ↓zr_len0, ↓zr_ok0, ↓zr_okn, ↓zr_oki, ↓zr_okr, ↓zr_oks, ↓zr_tt, ↓zr_ar0u, ↓zr_ar0n, ↓zr_ar1u, ↓zr_ar1n, ↓zr_ar2u, ↓zr_ar2n, ↓zr_obu, ↓zr_obn, ↓Nat.reduceAdd, Nat.reduceEqDiff, Nat.add_left_cancel_iff, not_false_eq_true, z_up_up, true_and, ↓sL_area_0, ↓sL_area_1, ↓sL_area_2, ↓sL_area_3, ↓sL_area_4, ↓sL_area_7, ↓sL_area_8, ↓sL_area_9, ↓sL_area_12, ↓sL_area_13, ↓sL_area_14, ↓sL_area_15, ↓sL_area_16]
    obtain ⟨g, hg⟩ := ho.kc hk
    exact hP _ _ ⟨by unfold zT_area; rw [if_pos hn], hk.o, hc, g, hg, fun h => absurd hn (by omega)⟩
  · rintro x w1 ⟨hk, hc, hn, rfl⟩
    simp only [Option.toList, List.cons_append, List.nil_append]
    obtain ⟨g, g1⟩ := ho.kc hk
    refine z_gn C E tkLA (Nat.le_of_ble_eq_true rfl) (Nat.le_of_ble_eq_true rfl) [] 60 ?_
    simp only [↓z_rn_f, ↓z_rn_t, ↓z_rn_0, ↓zr_in0, ↓zr_ins, ↓zr_inn, ↓zr_bt, ↓zr_bf, ↓zr_li0, ↓zr_lis, ↓zr_la0, ↓zr_las, ↓zr_ll0, ↓zr_lls, ↓zr_1i, ↓zr_1l, ↓zr_1a, ↓zr_2i, ↓zr_2l, ↓zr_lsi, ↓zr_ia, ↓zr_aa, ↓zr_dia, ↓zr_iia, ↓zr_lia, ↓zr_d1i, ↓zr_d1r, ↓zr_e1, ↓zr_e2, ↓zr_e0, ↓zr_f0, ↓zr_fs, ↓zr_s0, ↓zr_ss, ↓zr_len, ↓zr_len0, ↓zr_ok0, ↓zr_okn, ↓zr_oki, ↓zr_okr, ↓zr_oks, ↓zr_tt, ↓zr_ar0u, ↓zr_ar0n, ↓zr_ar1u, ↓zr_ar1n, ↓zr_ar2u, ↓zr_ar2n, ↓zr_obu, ↓zr_obn, ↓Nat.reduceAdd, Nat.reduceEqDiff, Nat.add_left_cancel_iff, not_false_eq_true, z_up_up, true_and, ↓sL_area_0, ↓sL_area_1, ↓sL_area_2, ↓sL_area_3, ↓sL_area_4, ↓sL_area_7, ↓sL_area_8, ↓sL_area_9, ↓sL_area_12, ↓sL_area_13, ↓sL_area_14, ↓sL_area_15, ↓sL_area_16, ↓zh_ar2 g1]
    refine ⟨vp_in_iff.mpr (by decide), hP _ _ ⟨by unfold zT_area; rw [if_neg (by omega)], hk.o.up _, hc.uo _, ⟨_, by rw [z_up_2, if_pos rfl], ?_⟩⟩⟩
    intro _
    simp [vp_updL]
set_option maxRecDepth 100000 in
set_option maxHeartbeats 1000000 in
theorem l_sort (G : zG) (w : zW) (b : Nat) (sb : Int32) (wy rc su : Int32) (fl : Nat → Int32) (h : zCl b w wy rc su fl) (hG : G.2.2.2 ≤ w.1) (ho : zO b w) (hsb : sb = 0 ∨ sb = 1) :
    z_M G yL_sort wsL_sort (zrK 7 1 6 240) 1 6 [.ref b, .int sb, .ref (b + 53)] w (fun x w' => (∃ v, x = some (.int v)) ∧ zKo b w w' ∧ zCl b w' wy rc su fl ∧ zO b w') := by
  obtain ⟨⟨_, _, _, _, _, _, _, _, h0, _⟩, _⟩ := id h
  unfold zSM at h0
  refine z_mtWP (nL := 4) (cc := cL_sort) (ret := some .int) (hh := [(0, 9, 12, 19)]) (by decide) rfl (Nat.le_of_ble_eq_true rfl) 1 [some (.ref b), some (.int sb), some (.ref (b + 53)), none] rfl ?_
  intro P hP Γ C E htb
  refine z_gn C E tkL_sort (Nat.zero_le _) (Nat.zero_le _) [] 60 ?_
  simp only [↓z_rn_f, ↓z_rn_t, ↓z_rn_0, ↓zr_in0, ↓zr_ins, ↓zr_inn, ↓zr_bt, ↓zr_bf, ↓zr_li0, ↓zr_lis, ↓zr_la0, ↓zr_las, ↓zr_ll0, ↓zr_lls, ↓zr_1i, ↓zr_1l, ↓zr_1a, ↓zr_2i, ↓zr_2l, ↓zr_lsi, ↓zr_ia, ↓zr_aa, ↓zr_dia, ↓zr_iia, ↓zr_lia, ↓zr_d1i, ↓zr_d1r, ↓zr_e1, ↓zr_e2, ↓zr_e0, ↓zr_f0, ↓zr_fs, ↓zr_s0, ↓zr_ss, ↓zr_len, ↓zr_len0, ↓zr_ok0, ↓zr_okn, ↓zr_oki, ↓zr_okr, ↓zr_oks, ↓zr_tt, ↓zr_ar0u, ↓zr_ar0n, ↓zr_ar1u, ↓zr_ar1n, ↓zr_ar2u, ↓zr_ar2n, ↓zr_obu, ↓zr_obn, ↓Nat.reduceAdd, Nat.reduceEqDiff, Nat.add_left_cancel_iff, not_false_eq_true, z_up_up, true_and, ↓sL_sort_0, ↓sL_sort_1, ↓sL_sort_2, ↓sL_sort_3, ↓sL_sort_4, ↓sL_sort_7, ↓sL_sort_8, ↓sL_sort_9, ↓sL_sort_12, ↓sL_sort_13, ↓sL_sort_14, ↓sL_sort_15, ↓sL_sort_16]
  refine z_callVX (n := 1) (As := [.int sb]) (rest := [.int 0, .ref (b + 53)]) (x := ⟨0, 9, 12, 19⟩) (cls := zIse) C E htb (by decide) (by decide) (by decide +kernel) (by decide +kernel) (k_sort G w b sb wy rc su fl h hG hsb) (fun _ _ h => h.1) gL_sort_X8_sort rfl rfl rfl (by decide +kernel) (by decide) dL_sort_4 rfl ⟨Nat.le_of_ble_eq_true rfl, Nat.le_of_ble_eq_true rfl⟩ (Nat.le_of_ble_eq_true rfl) rfl h0 ?_ ?_
  · rintro q w1 ⟨-, hk, hc⟩
    refine z_gn C E tkL_sort (Nat.le_of_ble_eq_true rfl) (Nat.le_of_ble_eq_true rfl) [] 60 ?_
    simp only [↓z_rn_f, ↓z_rn_t, ↓z_rn_0, ↓zr_in0, ↓zr_ins, ↓zr_inn, ↓zr_bt, ↓zr_bf, ↓zr_li0, ↓zr_lis, ↓zr_la0, ↓zr_las, ↓zr_ll0, ↓zr_lls, ↓zr_1i, ↓zr_1l, ↓zr_1a, ↓zr_2i, ↓zr_2l, ↓zr_lsi, ↓zr_ia, ↓zr_aa, ↓zr_dia, ↓zr_iia, ↓zr_lia, ↓zr_d1i, ↓zr_d1r, ↓zr_e1, ↓zr_e2, ↓zr_e0, ↓zr_f0, ↓zr_fs, ↓zr_s0, ↓zr_ss, ↓zr_len, ↓zr_len0, ↓zr_ok0, ↓zr_okn, ↓zr_oki, ↓zr_okr, ↓zr_oks, ↓zr_tt, ↓zr_ar0u, ↓zr_ar0n, ↓zr_ar1u, ↓zr_ar1n, ↓zr_ar2u, ↓zr_ar2n, ↓zr_obu, ↓zr_obn, ↓Nat.reduceAdd, Nat.reduceEqDiff, Nat.add_left_cancel_iff, not_false_eq_true, z_up_up, true_and, ↓sL_sort_0, ↓sL_sort_1, ↓sL_sort_2, ↓sL_sort_3, ↓sL_sort_4, ↓sL_sort_7, ↓sL_sort_8, ↓sL_sort_9, ↓sL_sort_12, ↓sL_sort_13, ↓sL_sort_14, ↓sL_sort_15, ↓sL_sort_16]
    exact hP _ _ ⟨⟨_, rfl⟩, hk.o, hc, ho.kc hk⟩
  · rintro x w1 ⟨⟨v, rfl⟩, hk, hc⟩
    simp only [Option.toList, List.cons_append, List.nil_append]
    obtain ⟨g, g1⟩ := ho.kc hk
    refine z_gn C E tkL_sort (Nat.le_of_ble_eq_true rfl) (Nat.le_of_ble_eq_true rfl) [] 60 ?_
    simp only [↓z_rn_f, ↓z_rn_t, ↓z_rn_0, ↓zr_in0, ↓zr_ins, ↓zr_inn, ↓zr_bt, ↓zr_bf, ↓zr_li0, ↓zr_lis, ↓zr_la0, ↓zr_las, ↓zr_ll0, ↓zr_lls, ↓zr_1i, ↓zr_1l, ↓zr_1a, ↓zr_2i, ↓zr_2l, ↓zr_lsi, ↓zr_ia, ↓zr_aa, ↓zr_dia, ↓zr_iia, ↓zr_lia, ↓zr_d1i, ↓zr_d1r, ↓zr_e1, ↓zr_e2, ↓zr_e0, ↓zr_f0, ↓zr_fs, ↓zr_s0, ↓zr_ss, ↓zr_len, ↓zr_len0, ↓zr_ok0, ↓zr_okn, ↓zr_oki, ↓zr_okr, ↓zr_oks, ↓zr_tt, ↓zr_ar0u, ↓zr_ar0n, ↓zr_ar1u, ↓zr_ar1n, ↓zr_ar2u, ↓zr_ar2n, ↓zr_obu, ↓zr_obn, ↓Nat.reduceAdd, Nat.reduceEqDiff, Nat.add_left_cancel_iff, not_false_eq_true, z_up_up, true_and, ↓sL_sort_0, ↓sL_sort_1, ↓sL_sort_2, ↓sL_sort_3, ↓sL_sort_4, ↓sL_sort_7, ↓sL_sort_8, ↓sL_sort_9, ↓sL_sort_12, ↓sL_sort_13, ↓sL_sort_14, ↓sL_sort_15, ↓sL_sort_16, ↓zh_ar2 g1]
    exact ⟨vp_in_iff.mpr (by decide), hP _ _ ⟨⟨_, rfl⟩, hk.o.up _, hc.uo _, ⟨_, by rw [z_up_2, if_pos rfl]⟩⟩⟩
set_option maxRecDepth 100000 in
set_option maxHeartbeats 1000000 in
theorem l_compare (G : zG) (w : zW) (b : Nat) (p q : Int32) (wy rc su : Int32) (fl : Nat → Int32) (h : zCl b w wy rc su fl) (hG : G.2.2.2 ≤ w.1) (ho : zO b w) :
    z_M G yL_compare wsL_compare (zrK 7 1 6 240) 1 6 [.ref b, .int p, .int q, .ref (b + 53)] w (fun x w' => (∃ v, x = some (.int v)) ∧ zKo b w w' ∧ zCl b w' wy rc su fl ∧ zO b w') := by
  obtain ⟨⟨_, _, _, _, _, _, _, _, h0, _⟩, _⟩ := id h
  unfold zSM at h0
  refine z_mtWP (nL := 5) (cc := cL_compare) (ret := some .int) (hh := [(0, 10, 13, 25)]) (by decide) rfl (Nat.le_of_ble_eq_true rfl) 1 [some (.ref b), some (.int p), some (.int q), some (.ref (b + 53)), none] rfl ?_
  intro P hP Γ C E htb
  refine z_gn C E tkL_compare (Nat.zero_le _) (Nat.zero_le _) [] 60 ?_
  simp only [↓z_rn_f, ↓z_rn_t, ↓z_rn_0, ↓zr_in0, ↓zr_ins, ↓zr_inn, ↓zr_bt, ↓zr_bf, ↓zr_li0, ↓zr_lis, ↓zr_la0, ↓zr_las, ↓zr_ll0, ↓zr_lls, ↓zr_1i, ↓zr_1l, ↓zr_1a, ↓zr_2i, ↓zr_2l, ↓zr_lsi, ↓zr_ia, ↓zr_aa, ↓zr_dia, ↓zr_iia, ↓zr_lia, ↓zr_d1i, ↓zr_d1r, ↓zr_e1, ↓zr_e2, ↓zr_e0, ↓zr_f0, ↓zr_fs, ↓zr_s0, ↓zr_ss, ↓zr_len, ↓zr_len0, ↓zr_ok0, ↓zr_okn, ↓zr_oki, ↓zr_okr, ↓zr_oks, ↓zr_tt, ↓zr_ar0u, ↓zr_ar0n, ↓zr_ar1u, ↓zr_ar1n, ↓zr_ar2u, ↓zr_ar2n, ↓zr_obu, ↓zr_obn, ↓Nat.reduceAdd, Nat.reduceEqDiff, Nat.add_left_cancel_iff, not_false_eq_true, z_up_up, true_and, ↓sL_compare_0, ↓sL_compare_1, ↓sL_compare_2, ↓sL_compare_3, ↓sL_compare_4, ↓sL_compare_5, ↓sL_compare_8, ↓sL_compare_9, ↓sL_compare_10, ↓sL_compare_13, ↓sL_compare_15, ↓sL_compare_16, ↓sL_compare_17, ↓sL_compare_18]
  refine z_callVX (n := 2) (As := [.int p, .int q]) (rest := [.int 0, .ref (b + 53)]) (x := ⟨0, 10, 13, 25⟩) (cls := zIae) C E htb (by decide) (by decide) (by decide +kernel) (by decide +kernel) (k_compare G w b p q wy rc su fl h hG) (fun _ _ h => h.1) gL_compare_X8_compare rfl rfl rfl (by decide +kernel) (by decide) dL_compare_5 rfl ⟨Nat.le_of_ble_eq_true rfl, Nat.le_of_ble_eq_true rfl⟩ (Nat.le_of_ble_eq_true rfl) rfl h0 ?_ ?_
  · rintro q w1 ⟨-, hk, hc⟩
    refine z_gn C E tkL_compare (Nat.le_of_ble_eq_true rfl) (Nat.le_of_ble_eq_true rfl) [] 60 ?_
    simp only [↓z_rn_f, ↓z_rn_t, ↓z_rn_0, ↓zr_in0, ↓zr_ins, ↓zr_inn, ↓zr_bt, ↓zr_bf, ↓zr_li0, ↓zr_lis, ↓zr_la0, ↓zr_las, ↓zr_ll0, ↓zr_lls, ↓zr_1i, ↓zr_1l, ↓zr_1a, ↓zr_2i, ↓zr_2l, ↓zr_lsi, ↓zr_ia, ↓zr_aa, ↓zr_dia, ↓zr_iia, ↓zr_lia, ↓zr_d1i, ↓zr_d1r, ↓zr_e1, ↓zr_e2, ↓zr_e0, ↓zr_f0, ↓zr_fs, ↓zr_s0, ↓zr_ss, ↓zr_len, ↓zr_len0, ↓zr_ok0, ↓zr_okn, ↓zr_oki, ↓zr_okr, ↓zr_oks, ↓zr_tt, ↓zr_ar0u, ↓zr_ar0n, ↓zr_ar1u, ↓zr_ar1n, ↓zr_ar2u, ↓zr_ar2n, ↓zr_obu, ↓zr_obn, ↓Nat.reduceAdd, Nat.reduceEqDiff, Nat.add_left_cancel_iff, not_false_eq_true, z_up_up, true_and, ↓sL_compare_0, ↓sL_compare_1, ↓sL_compare_2, ↓sL_compare_3, ↓sL_compare_4, ↓sL_compare_5, ↓sL_compare_8, ↓sL_compare_9, ↓sL_compare_10, ↓sL_compare_13, ↓sL_compare_15, ↓sL_compare_16, ↓sL_compare_17, ↓sL_compare_18]
    exact hP _ _ ⟨⟨_, rfl⟩, hk.o, hc, ho.kc hk⟩
  · rintro x w1 ⟨⟨v, rfl⟩, hk, hc⟩
    simp only [Option.toList, List.cons_append, List.nil_append]
    obtain ⟨g, g1⟩ := ho.kc hk
    refine z_gn C E tkL_compare (Nat.le_of_ble_eq_true rfl) (Nat.le_of_ble_eq_true rfl) [] 60 ?_
    simp only [↓z_rn_f, ↓z_rn_t, ↓z_rn_0, ↓zr_in0, ↓zr_ins, ↓zr_inn, ↓zr_bt, ↓zr_bf, ↓zr_li0, ↓zr_lis, ↓zr_la0, ↓zr_las, ↓zr_ll0, ↓zr_lls, ↓zr_1i, ↓zr_1l, ↓zr_1a, ↓zr_2i, ↓zr_2l, ↓zr_lsi, ↓zr_ia, ↓zr_aa, ↓zr_dia, ↓zr_iia, ↓zr_lia, ↓zr_d1i, ↓zr_d1r, ↓zr_e1, ↓zr_e2, ↓zr_e0, ↓zr_f0, ↓zr_fs, ↓zr_s0, ↓zr_ss, ↓zr_len, ↓zr_len0, ↓zr_ok0, ↓zr_okn, ↓zr_oki, ↓zr_okr, ↓zr_oks, ↓zr_tt, ↓zr_ar0u, ↓zr_ar0n, ↓zr_ar1u, ↓zr_ar1n, ↓zr_ar2u, ↓zr_ar2n, ↓zr_obu, ↓zr_obn, ↓Nat.reduceAdd, Nat.reduceEqDiff, Nat.add_left_cancel_iff, not_false_eq_true, z_up_up, true_and, ↓sL_compare_0, ↓sL_compare_1, ↓sL_compare_2, ↓sL_compare_3, ↓sL_compare_4, ↓sL_compare_5, ↓sL_compare_8, ↓sL_compare_9, ↓sL_compare_10, ↓sL_compare_13, ↓sL_compare_15, ↓sL_compare_16, ↓sL_compare_17, ↓sL_compare_18, ↓zh_ar2 g1]
    exact ⟨vp_in_iff.mpr (by decide), hP _ _ ⟨⟨_, rfl⟩, hk.o.up _, hc.uo _, ⟨_, by rw [z_up_2, if_pos rfl]⟩⟩⟩
