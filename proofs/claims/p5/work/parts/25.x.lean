theorem z_Xsw {G : zG} {cc : ByteArray} {own : String} {Ts : List Cond} {nL : Nat} {Γ : zΓ} {Q : State → Prop} (C : z_X G cc own Ts nL Γ) : z_X G cc own Ts nL (z_sw Γ Q) := C
section ZSX
variable {G : zG} {cc : ByteArray} {own : String} {Ts : List Cond} {nL : Nat} {Γ : zΓ} {w : zW} {cells slots pc : Nat} {lv : zL} {st : List Value} {rm : Room} {mc ms : Nat} {nm : String} {ret : Option FieldType} {Post : Option Value → zW → Prop} {PX : String → zW → Prop}
theorem z_step_okX (C : z_X G cc own Ts nL Γ) (E : z_EX G rm mc ms nm ret Post PX Γ) {op a b n : Nat} {v : Int32} {i : Instr} {len : Nat} (hd : decode cc pc = .ok (i, len)) (hck : z_chk own Ts nL ret pc i len op a b n v = true) (hc : cells ≤ mc) (hs : slots ≤ ms) {nx K : Nat → zL → List Value → zW → Prop}
    (hnx : ∀ pc lv st w, nx pc lv st w → z_J G nL Γ w cells slots pc lv st) (hK : ∀ pc lv st w, K pc lv st w → z_J G nL Γ w cells slots pc lv st) (h : z_step op a b n v pc lv st w nx K Post) : z_J G nL Γ w cells slots pc lv st := by
  by_cases h99 : op = 99
  · subst h99
    exact hK _ _ _ _ h
  have hx := C.1.1
  have hb := C.1.2.1
  have hown := C.1.2.2.2.1
  have hts := C.1.2.2.2.2
  simp only [z_chk, h99, decide_false, Bool.false_or] at hck
  cases i
  case iload k =>
    simp only [decide_eq_true_eq] at hck
    obtain ⟨rfl, rfl, rfl, rfl⟩ := hck
    obtain ⟨x, h1, h2⟩ := z_li_ok h
    intro H locs ls hH hS hl
    exact lv_iload hx hb hd (hl.2.2 _ _ h1) (hnx _ _ _ _ h2 H locs ls hH hS hl)
  case iload_n k =>
    simp only [decide_eq_true_eq] at hck
    obtain ⟨rfl, rfl, rfl, rfl⟩ := hck
    obtain ⟨x, h1, h2⟩ := z_li_ok h
    intro H locs ls hH hS hl
    exact lv_iload_n hx hb hd rfl (hl.2.2 _ _ h1) (hnx _ _ _ _ h2 H locs ls hH hS hl)
  case aload k =>
    simp only [decide_eq_true_eq] at hck
    obtain ⟨rfl, rfl, rfl, rfl⟩ := hck
    obtain ⟨x, h1, h2⟩ := z_la_ok h
    intro H locs ls hH hS hl
    exact lv_aload hx hb hd (hl.2.2 _ _ h1) (hnx _ _ _ _ h2 H locs ls hH hS hl)
  case aload_n k =>
    simp only [decide_eq_true_eq] at hck
    obtain ⟨rfl, rfl, rfl, rfl⟩ := hck
    obtain ⟨x, h1, h2⟩ := z_la_ok h
    intro H locs ls hH hS hl
    exact lv_aload_n hx hb hd rfl (hl.2.2 _ _ h1) (hnx _ _ _ _ h2 H locs ls hH hS hl)
  case lload k =>
    simp only [decide_eq_true_eq] at hck
    obtain ⟨rfl, rfl, rfl, rfl⟩ := hck
    obtain ⟨x, h1, h2⟩ := z_ll_ok h
    intro H locs ls hH hS hl
    exact lv_lload hx hb hd (hl.2.2 _ _ h1) (hnx _ _ _ _ h2 H locs ls hH hS hl)
  case lload_n k =>
    simp only [decide_eq_true_eq] at hck
    obtain ⟨rfl, rfl, rfl, rfl⟩ := hck
    obtain ⟨x, h1, h2⟩ := z_ll_ok h
    intro H locs ls hH hS hl
    exact lv_lload_n hx hb hd rfl (hl.2.2 _ _ h1) (hnx _ _ _ _ h2 H locs ls hH hS hl)
  case istore k =>
    simp only [decide_eq_true_eq] at hck
    obtain ⟨rfl, rfl, rfl, rfl, hlt⟩ := hck
    obtain ⟨x, r, rfl, h1, h2⟩ := z_1i_ok h
    intro H locs ls hH hS hl
    exact lv_istore hx hb hd hl.has hlt rfl (fun ls' hl' => hnx _ _ _ _ h2 H locs ls' hH hS (z_L.st1 h1 hl'))
  case istore_n k =>
    simp only [decide_eq_true_eq] at hck
    obtain ⟨rfl, rfl, rfl, rfl, hlt⟩ := hck
    obtain ⟨x, r, rfl, h1, h2⟩ := z_1i_ok h
    intro H locs ls hH hS hl
    exact lv_istore_n hx hb hd rfl hl.has hlt rfl (fun ls' hl' => hnx _ _ _ _ h2 H locs ls' hH hS (z_L.st1 h1 hl'))
  case astore k =>
    simp only [decide_eq_true_eq] at hck
    obtain ⟨rfl, rfl, rfl, rfl, hlt⟩ := hck
    obtain ⟨x, r, rfl, h1, h2⟩ := z_1a_ok h
    intro H locs ls hH hS hl
    exact lv_astore hx hb hd hl.has hlt rfl (fun ls' hl' => hnx _ _ _ _ h2 H locs ls' hH hS (z_L.st1 h1 hl'))
  case astore_n k =>
    simp only [decide_eq_true_eq] at hck
    obtain ⟨rfl, rfl, rfl, rfl, hlt⟩ := hck
    obtain ⟨x, r, rfl, h1, h2⟩ := z_1a_ok h
    intro H locs ls hH hS hl
    exact lv_astore_n hx hb hd rfl hl.has hlt rfl (fun ls' hl' => hnx _ _ _ _ h2 H locs ls' hH hS (z_L.st1 h1 hl'))
  case lstore k =>
    simp only [decide_eq_true_eq] at hck
    obtain ⟨rfl, rfl, rfl, rfl, hlt⟩ := hck
    obtain ⟨x, r, rfl, h1, h2⟩ := z_1l_ok h
    intro H locs ls hH hS hl
    exact lv_lstore hx hb hd hl.has hlt rfl (fun ls' hl' => hnx _ _ _ _ h2 H locs ls' hH hS (z_L.st2 h1 hl'))
  case lstore_n k =>
    simp only [decide_eq_true_eq] at hck
    obtain ⟨rfl, rfl, rfl, rfl, hlt⟩ := hck
    obtain ⟨x, r, rfl, h1, h2⟩ := z_1l_ok h
    intro H locs ls hH hS hl
    exact lv_lstore_n hx hb hd rfl hl.has hlt rfl (fun ls' hl' => hnx _ _ _ _ h2 H locs ls' hH hS (z_L.st2 h1 hl'))
  case iconst z =>
    simp only [decide_eq_true_eq] at hck
    obtain ⟨rfl, rfl, rfl, rfl⟩ := hck
    intro H locs ls hH hS hl
    exact lv_iconst hx hb hd rfl (hnx _ _ _ _ h H locs ls hH hS hl)
  case bipush z =>
    simp only [decide_eq_true_eq] at hck
    obtain ⟨rfl, rfl, rfl, rfl⟩ := hck
    intro H locs ls hH hS hl
    exact lv_bipush hx hb hd rfl (hnx _ _ _ _ h H locs ls hH hS hl)
  case sipush z =>
    simp only [decide_eq_true_eq] at hck
    obtain ⟨rfl, rfl, rfl, rfl⟩ := hck
    intro H locs ls hH hS hl
    exact lv_sipush hx hb hd rfl (hnx _ _ _ _ h H locs ls hH hS hl)
  case lconst z =>
    simp only [decide_eq_true_eq] at hck
    obtain ⟨rfl, rfl, rfl, hv⟩ := hck
    intro H locs ls hH hS hl
    exact lv_lconst hx hb hd hv.symm (hnx _ _ _ _ h H locs ls hH hS hl)
  case ldc2_w k =>
    simp only [decide_eq_true_eq] at hck
    obtain ⟨rfl, rfl, rfl, hv⟩ := hck
    intro H locs ls hH hS hl
    exact lv_ldc2 hx hb hown (hts _ hv) hd (hnx _ _ _ _ h H locs ls hH hS hl)
  case iinc k z =>
    simp only [decide_eq_true_eq] at hck
    obtain ⟨rfl, rfl, rfl, rfl, hlt, rfl⟩ := hck
    obtain ⟨x, h1, h2, h3⟩ := z_li_ok h
    intro H locs ls hH hS hl
    obtain ⟨j, hj⟩ := List.getElem?_of_mem (z_as_mem.mpr h1)
    exact lv_iinc hx hb hd hl.has hj rfl hlt rfl (fun ls' hl' => hnx _ _ _ _ h3 H locs ls' hH hS (z_L.st1 h2 hl'))
  case iadd =>
    simp only [decide_eq_true_eq] at hck
    obtain ⟨rfl, rfl, rfl⟩ := hck
    obtain ⟨x, y, r, rfl, h1⟩ := z_2i_ok h
    intro H locs ls hH hS hl
    exact lv_iadd hx hb hd (hnx _ _ _ _ h1 H locs ls hH hS hl)
  case isub =>
    simp only [decide_eq_true_eq] at hck
    obtain ⟨rfl, rfl, rfl⟩ := hck
    obtain ⟨x, y, r, rfl, h1⟩ := z_2i_ok h
    intro H locs ls hH hS hl
    exact lv_isub hx hb hd (hnx _ _ _ _ h1 H locs ls hH hS hl)
  case imul =>
    simp only [decide_eq_true_eq] at hck
    obtain ⟨rfl, rfl, rfl⟩ := hck
    obtain ⟨x, y, r, rfl, h1⟩ := z_2i_ok h
    intro H locs ls hH hS hl
    exact lv_imul hx hb hd (hnx _ _ _ _ h1 H locs ls hH hS hl)
  case iand =>
    simp only [decide_eq_true_eq] at hck
    obtain ⟨rfl, rfl, rfl⟩ := hck
    obtain ⟨x, y, r, rfl, h1⟩ := z_2i_ok h
    intro H locs ls hH hS hl
    exact lv_iand hx hb hd (hnx _ _ _ _ h1 H locs ls hH hS hl)
  case ior =>
    simp only [decide_eq_true_eq] at hck
    obtain ⟨rfl, rfl, rfl⟩ := hck
    obtain ⟨x, y, r, rfl, h1⟩ := z_2i_ok h
    intro H locs ls hH hS hl
    exact lv_ior hx hb hd (hnx _ _ _ _ h1 H locs ls hH hS hl)
  case ixor =>
    simp only [decide_eq_true_eq] at hck
    obtain ⟨rfl, rfl, rfl⟩ := hck
    obtain ⟨x, y, r, rfl, h1⟩ := z_2i_ok h
    intro H locs ls hH hS hl
    exact lv_ixor hx hb hd (hnx _ _ _ _ h1 H locs ls hH hS hl)
  case ineg =>
    simp only [decide_eq_true_eq] at hck
    obtain ⟨rfl, rfl, rfl⟩ := hck
    obtain ⟨x, r, rfl, h1⟩ := z_1i_ok h
    intro H locs ls hH hS hl
    exact lv_ineg hx hb hd (hnx _ _ _ _ h1 H locs ls hH hS hl)
  case idiv =>
    simp only [decide_eq_true_eq] at hck
    obtain ⟨rfl, rfl, rfl⟩ := hck
    obtain ⟨x, y, r, rfl, h0, h1⟩ := z_2i_ok h
    intro H locs ls hH hS hl
    exact lv_idiv hx hb hd h0 (hnx _ _ _ _ h1 H locs ls hH hS hl)
  case irem =>
    simp only [decide_eq_true_eq] at hck
    obtain ⟨rfl, rfl, rfl⟩ := hck
    obtain ⟨x, y, r, rfl, h0, h1⟩ := z_2i_ok h
    intro H locs ls hH hS hl
    exact lv_irem hx hb hd h0 (hnx _ _ _ _ h1 H locs ls hH hS hl)
  case ladd =>
    simp only [decide_eq_true_eq] at hck
    obtain ⟨rfl, rfl, rfl⟩ := hck
    obtain ⟨x, y, r, rfl, h1⟩ := z_2l_ok h
    intro H locs ls hH hS hl
    exact lv_ladd hx hb hd (hnx _ _ _ _ h1 H locs ls hH hS hl)
  case lmul =>
    simp only [decide_eq_true_eq] at hck
    obtain ⟨rfl, rfl, rfl⟩ := hck
    obtain ⟨x, y, r, rfl, h1⟩ := z_2l_ok h
    intro H locs ls hH hS hl
    exact lv_lmul hx hb hd (hnx _ _ _ _ h1 H locs ls hH hS hl)
  case lor =>
    simp only [decide_eq_true_eq] at hck
    obtain ⟨rfl, rfl, rfl⟩ := hck
    obtain ⟨x, y, r, rfl, h1⟩ := z_2l_ok h
    intro H locs ls hH hS hl
    exact lv_lor hx hb hd (hnx _ _ _ _ h1 H locs ls hH hS hl)
  case lsub =>
    simp only [decide_eq_true_eq] at hck
    obtain ⟨rfl, rfl, rfl⟩ := hck
    obtain ⟨x, y, r, rfl, h1⟩ := z_2l_ok h
    intro H locs ls hH hS hl
    exact lv_lsub hx hb hd (hnx _ _ _ _ h1 H locs ls hH hS hl)
  case lneg =>
    simp only [decide_eq_true_eq] at hck
    obtain ⟨rfl, rfl, rfl⟩ := hck
    obtain ⟨x, r, rfl, h1⟩ := z_1l_ok h
    intro H locs ls hH hS hl
    exact lv_lneg hx hb hd (hnx _ _ _ _ h1 H locs ls hH hS hl)
  case ishr =>
    simp only [decide_eq_true_eq] at hck
    obtain ⟨rfl, rfl, rfl⟩ := hck
    obtain ⟨x, y, r, rfl, h1⟩ := z_2i_ok h
    intro H locs ls hH hS hl
    exact lv_ishr hx hb hd (hnx _ _ _ _ h1 H locs ls hH hS hl)
  case ishl =>
    simp only [decide_eq_true_eq] at hck
    obtain ⟨rfl, rfl, rfl⟩ := hck
    obtain ⟨x, y, r, rfl, h1⟩ := z_2i_ok h
    intro H locs ls hH hS hl
    exact lv_ishl hx hb hd (hnx _ _ _ _ h1 H locs ls hH hS hl)
  case lshl =>
    simp only [decide_eq_true_eq] at hck
    obtain ⟨rfl, rfl, rfl⟩ := hck
    obtain ⟨x, y, r, rfl, h1⟩ := z_lsi_ok h
    intro H locs ls hH hS hl
    exact lv_lshl hx hb hd rfl (hnx _ _ _ _ h1 H locs ls hH hS hl)
  case i2l =>
    simp only [decide_eq_true_eq] at hck
    obtain ⟨rfl, rfl, rfl⟩ := hck
    obtain ⟨x, r, rfl, h1⟩ := z_1i_ok h
    intro H locs ls hH hS hl
    exact lv_i2l hx hb hd rfl (hnx _ _ _ _ h1 H locs ls hH hS hl)
  case i2b =>
    simp only [decide_eq_true_eq] at hck
    obtain ⟨rfl, rfl, rfl⟩ := hck
    obtain ⟨x, r, rfl, h1⟩ := z_1i_ok h
    intro H locs ls hH hS hl
    exact lv_i2b hx hb hd rfl (hnx _ _ _ _ h1 H locs ls hH hS hl)
  case lcmp =>
    simp only [decide_eq_true_eq] at hck
    obtain ⟨rfl, rfl, rfl⟩ := hck
    obtain ⟨x, y, r, rfl, h1⟩ := z_2l_ok h
    intro H locs ls hH hS hl
    exact W.lcmp hx hb hd (hnx _ _ _ _ h1 H locs ls hH hS hl)
  case dup =>
    simp only [decide_eq_true_eq] at hck
    obtain ⟨rfl, rfl, rfl⟩ := hck
    have h := (show z_d1 st (fun x r => nx (pc + 1) lv (x :: x :: r) w) from h)
    obtain ⟨x, r, rfl, h0, h1⟩ := z_d1_ok h
    intro H locs ls hH hS hl
    exact lv_dup hx hb hd h0 (hnx _ _ _ _ h1 H locs ls hH hS hl)
  case pop =>
    simp only [decide_eq_true_eq] at hck
    obtain ⟨rfl, rfl, rfl⟩ := hck
    have h := (show z_d1 st (fun _ r => nx (pc + 1) lv r w) from h)
    obtain ⟨x, r, rfl, h0, h1⟩ := z_d1_ok h
    intro H locs ls hH hS hl
    exact lv_pop hx hb hd h0 (hnx _ _ _ _ h1 H locs ls hH hS hl)
  case dup2 =>
    simp only [decide_eq_true_eq] at hck
    obtain ⟨rfl, rfl, rfl⟩ := hck
    obtain ⟨x, i, r, rfl, h1⟩ := z_dia_ok h
    intro H locs ls hH hS hl
    exact lv_dup2_11 hx hb hd rfl rfl (hnx _ _ _ _ h1 H locs ls hH hS hl)
  case goto o =>
    simp only [decide_eq_true_eq] at hck
    obtain ⟨rfl, rfl, ht⟩ := hck
    intro H locs ls hH hS hl
    exact lv_goto hx hb hd ht (hnx _ _ _ _ h H locs ls hH hS hl)
  case ifCond c o =>
    cases c <;> simp only [decide_eq_true_eq] at hck <;> obtain ⟨rfl, rfl, rfl, ht⟩ := hck <;> obtain ⟨x, r, rfl, h1, h2⟩ := z_1i_ok h <;> intro H locs ls hH hS hl
    · exact lv_if_eq hx hb hd ht (fun q => hnx _ _ _ _ (h1 q) H locs ls hH hS hl) (fun q => hnx _ _ _ _ (h2 q) H locs ls hH hS hl)
    · exact lv_if_ne hx hb hd ht (fun q => hnx _ _ _ _ (h1 q) H locs ls hH hS hl) (fun q => hnx _ _ _ _ (h2 q) H locs ls hH hS hl)
    · exact lv_if_lt hx hb hd ht (fun q => hnx _ _ _ _ (h1 q) H locs ls hH hS hl) (fun q => hnx _ _ _ _ (h2 q) H locs ls hH hS hl)
    · exact lv_if_ge hx hb hd ht (fun q => hnx _ _ _ _ (h1 q) H locs ls hH hS hl) (fun q => hnx _ _ _ _ (h2 q) H locs ls hH hS hl)
    · exact lv_if_gt hx hb hd ht (fun q => hnx _ _ _ _ (h1 q) H locs ls hH hS hl) (fun q => hnx _ _ _ _ (h2 q) H locs ls hH hS hl)
    · exact lv_if_le hx hb hd ht (fun q => hnx _ _ _ _ (h1 q) H locs ls hH hS hl) (fun q => hnx _ _ _ _ (h2 q) H locs ls hH hS hl)
  case if_icmp c o =>
    cases c <;> simp only [decide_eq_true_eq] at hck <;> obtain ⟨rfl, rfl, rfl, ht⟩ := hck <;> obtain ⟨x, y, r, rfl, h1, h2⟩ := z_2i_ok h <;> intro H locs ls hH hS hl
    · exact lv_icmp_eq hx hb hd ht (fun q => hnx _ _ _ _ (h1 q) H locs ls hH hS hl) (fun q => hnx _ _ _ _ (h2 q) H locs ls hH hS hl)
    · exact lv_icmp_ne hx hb hd ht (fun q => hnx _ _ _ _ (h1 q) H locs ls hH hS hl) (fun q => hnx _ _ _ _ (h2 q) H locs ls hH hS hl)
    · exact lv_icmp_lt hx hb hd ht (fun q => hnx _ _ _ _ (h1 q) H locs ls hH hS hl) (fun q => hnx _ _ _ _ (h2 q) H locs ls hH hS hl)
    · exact lv_icmp_ge hx hb hd ht (fun q => hnx _ _ _ _ (h1 q) H locs ls hH hS hl) (fun q => hnx _ _ _ _ (h2 q) H locs ls hH hS hl)
    · exact lv_icmp_gt hx hb hd ht (fun q => hnx _ _ _ _ (h1 q) H locs ls hH hS hl) (fun q => hnx _ _ _ _ (h2 q) H locs ls hH hS hl)
    · exact lv_icmp_le hx hb hd ht (fun q => hnx _ _ _ _ (h1 q) H locs ls hH hS hl) (fun q => hnx _ _ _ _ (h2 q) H locs ls hH hS hl)
  case getfield k =>
    simp only [Bool.and_eq_true, decide_eq_true_eq] at hck
    obtain ⟨⟨rfl, rfl, rfl⟩, hlk⟩ := hck
    obtain ⟨x, r, rfl, h1⟩ := z_1a_ok h
    obtain ⟨fs, h2, h3⟩ := z_ob_ok h1
    obtain ⟨u, h4, h5⟩ := z_fl_ok h3
    obtain ⟨Cn, T, N, c1, c2, c3, c4⟩ := z_lk_ok hlk
    exact z_get C c4 c1 c2 c3 hd h2 h4 (hnx _ _ _ _ h5)
  case putfield k =>
    simp only [Bool.and_eq_true, Bool.or_eq_true, decide_eq_true_eq] at hck
    obtain ⟨hlk, hq⟩ := hck
    obtain ⟨Cn, T, N, c1, c2, c3, c4⟩ := z_lk_ok hlk
    rcases hq with (hq | hq) | hq
    · obtain ⟨⟨rfl, rfl, rfl⟩, hpk⟩ := hq
      obtain ⟨x, i, r, rfl, h1⟩ := z_ia_ok h
      obtain ⟨fs, h2, h3, h5⟩ := z_ob_ok h1
      obtain ⟨p1, ⟨ty, p2, p3⟩, p4, p5⟩ := z_pk_ok hpk c1
      have e : ty = .int := by unfold z_ti at p3; split at p3 <;> first | rfl | cases p3
      subst e
      exact z_put C c4 c1 _ p4 p5 c2 c3 p1 p2 hd h2 h3 rfl rfl (hnx _ _ _ _ h5)
    · obtain ⟨⟨rfl, rfl, rfl⟩, hpk⟩ := hq
      obtain ⟨x, y, r, rfl, h1⟩ := z_aa_ok h
      obtain ⟨fs, h2, h3, h5⟩ := z_ob_ok h1
      obtain ⟨p1, ⟨ty, p2, p3⟩, p4, p5⟩ := z_pk_ok hpk c1
      have e : (∃ q, ty = .object q) ∨ ∃ q, ty = .array q := by unfold z_tr at p3; split at p3 <;> first | exact Or.inl ⟨_, rfl⟩ | exact Or.inr ⟨_, rfl⟩ | cases p3
      rcases e with ⟨q, rfl⟩ | ⟨q, rfl⟩
      · exact z_put C c4 c1 _ p4 p5 c2 c3 p1 p2 hd h2 h3 rfl rfl (hnx _ _ _ _ h5)
      · exact z_put C c4 c1 _ p4 p5 c2 c3 p1 p2 hd h2 h3 rfl rfl (hnx _ _ _ _ h5)
    · obtain ⟨⟨rfl, rfl, rfl⟩, hpk⟩ := hq
      obtain ⟨x, i, r, rfl, h1⟩ := z_ia_ok h
      obtain ⟨fs, h2, h3, h4, h5⟩ := z_ob_ok h1
      obtain ⟨p1, ⟨ty, p2, p3⟩, p4, p5⟩ := z_pk_ok hpk c1
      have e : ty = .boolean := by unfold z_tz at p3; split at p3 <;> first | rfl | cases p3
      subst e
      rcases h4 with rfl | rfl
      · exact z_put C c4 c1 _ p4 p5 c2 c3 p1 p2 hd h2 h3 rfl rfl (hnx _ _ _ _ h5)
      · exact z_put C c4 c1 _ p4 p5 c2 c3 p1 p2 hd h2 h3 rfl rfl (hnx _ _ _ _ h5)
  case iaload =>
    simp only [decide_eq_true_eq] at hck
    obtain ⟨rfl, rfl, rfl⟩ := hck
    obtain ⟨x, i, r, rfl, h1⟩ := z_ia_ok h
    obtain ⟨m, g, h2, h3, h4⟩ := z_ar0_ok h1
    exact z_iald C hd h2 h3 (hnx _ _ _ _ h4)
  case baload =>
    simp only [decide_eq_true_eq] at hck
    obtain ⟨rfl, rfl, rfl⟩ := hck
    obtain ⟨x, i, r, rfl, h1⟩ := z_ia_ok h
    obtain ⟨m, g, h2, h3, h4⟩ := z_ar1_ok h1
    exact z_zald C hd h2 h3 (hnx _ _ _ _ h4)
  case laload =>
    simp only [decide_eq_true_eq] at hck
    obtain ⟨rfl, rfl, rfl⟩ := hck
    obtain ⟨x, i, r, rfl, h1⟩ := z_ia_ok h
    obtain ⟨m, g, h2, h3, h4⟩ := z_ar2_ok h1
    exact z_lald C hd h2 h3 (hnx _ _ _ _ h4)
  case iastore =>
    simp only [decide_eq_true_eq] at hck
    obtain ⟨rfl, rfl, rfl⟩ := hck
    obtain ⟨x, i, u, r, rfl, h1⟩ := z_iia_ok h
    obtain ⟨m, g, h2, h3, h4⟩ := z_ar0_ok h1
    exact z_iast C hd h2 h3 (hnx _ _ _ _ h4)
  case bastore =>
    simp only [decide_eq_true_eq] at hck
    obtain ⟨rfl, rfl, rfl⟩ := hck
    obtain ⟨x, i, u, r, rfl, h1⟩ := z_iia_ok h
    obtain ⟨m, g, h2, h3, h4⟩ := z_ar1_ok h1
    exact z_zast C hd h2 h3 (hnx _ _ _ _ h4)
  case lastore =>
    simp only [decide_eq_true_eq] at hck
    obtain ⟨rfl, rfl, rfl⟩ := hck
    obtain ⟨x, i, u, r, rfl, h1⟩ := z_lia_ok h
    obtain ⟨m, g, h2, h3, h4⟩ := z_ar2_ok h1
    exact z_last C hd h2 h3 (hnx _ _ _ _ h4)
  case arraylength =>
    simp only [decide_eq_true_eq] at hck
    obtain ⟨rfl, rfl, rfl⟩ := hck
    obtain ⟨x, r, rfl, h1⟩ := z_1a_ok h
    obtain ⟨m, g, h2, h3⟩ := z_ar0_ok h1
    exact z_alen C hd h2 (hnx _ _ _ _ h3)
  case ireturn =>
    simp only [decide_eq_true_eq] at hck
    obtain ⟨rfl, ⟨rfl, hr⟩ | ⟨rfl, hr⟩⟩ := hck
    · obtain ⟨x, rfl, h1⟩ := z_e1_ok h
      exact z_Jret E (z_iret (z_Xsw C) E.2.2.2 hr rfl hc hs hd h1)
    · obtain ⟨x, rfl, h0, h1⟩ := z_e1_ok h
      exact z_Jret E (z_iret (z_Xsw C) E.2.2.2 hr (by rcases h0 with rfl | rfl <;> rfl) hc hs hd h1)
  case lreturn =>
    simp only [decide_eq_true_eq] at hck
    obtain ⟨rfl, rfl, hr⟩ := hck
    obtain ⟨x, rfl, h1⟩ := z_e2_ok h
    exact z_Jret E (z_lret (z_Xsw C) E.2.2.2 hr hc hs hd h1)
  case return_ =>
    simp only [decide_eq_true_eq] at hck
    obtain ⟨rfl, rfl, hr⟩ := hck
    obtain ⟨rfl, h1⟩ := z_e0_ok h
    exact z_Jret E (z_vret (z_Xsw C) E.2.2.2 hr hc hs hd h1)
  all_goals exact absurd hck Bool.false_ne_true
theorem z_run_okX (C : z_X G cc own Ts nL Γ) (E : z_EX G rm mc ms nm ret Post PX Γ) {N : Nat} {tb : Nat → zI} (hT : z_tab own Ts nL ret cc N tb) (hc : cells ≤ mc) (hs : slots ≤ ms) {cut : List Nat} : ∀ (k pc : Nat) (lv : zL) (st : List Value) (w : zW), z_run tb cut (fun pc lv st w => z_J G nL Γ w cells slots pc lv st) Post k pc lv st w → z_J G nL Γ w cells slots pc lv st
  | 0, _, _, _, _, h => h
  | k + 1, pc, lv, st, w, h => by
    unfold z_run at h
    split at h
    · exact h
    · have ht := hT pc
      unfold z_ck at ht
      generalize ht2 : tb pc = t at ht h
      obtain ⟨op, a, b, n, v⟩ := t
      unfold z_st1 at h
      dsimp only at ht h
      by_cases h99 : op = 99
      · subst h99; exact h
      · simp only [h99, decide_false, Bool.false_or] at ht
        split at ht
        · rename_i i len hd
          exact z_step_okX C E hd ht hc hs (fun pc lv st w h => z_run_okX C E hT hc hs k pc lv st w h) (fun _ _ _ _ h => h) h
        · cases ht
/-- one step at least, then on till a cut -/
theorem z_goX (C : z_X G cc own Ts nL Γ) (E : z_EX G rm mc ms nm ret Post PX Γ) {N : Nat} {tb : Nat → zI} (hT : z_tab own Ts nL ret cc N tb) (hc : cells ≤ mc) (hs : slots ≤ ms) (cut : List Nat) (k : Nat) (h : z_st1 (tb pc) pc lv st w (z_run tb cut (fun pc lv st w => z_J G nL Γ w cells slots pc lv st) Post k) (fun pc lv st w => z_J G nL Γ w cells slots pc lv st) Post) : z_J G nL Γ w cells slots pc lv st := by
  have h1 : z_run tb [] (fun pc lv st w => z_J G nL Γ w cells slots pc lv st) Post 1 pc lv st w ∨ True := Or.inr trivial
  have ht := hT pc
  unfold z_ck at ht
  generalize ht2 : tb pc = t at ht h
  obtain ⟨op, a, b, n, v⟩ := t
  unfold z_st1 at h
  dsimp only at ht h
  by_cases h99 : op = 99
  · subst h99; exact h
  · simp only [h99, decide_false, Bool.false_or] at ht
    split at ht
    · rename_i i len hd
      exact z_step_okX C E hd ht hc hs (fun pc lv st w h => z_run_okX C E hT hc hs k pc lv st w h) (fun _ _ _ _ h => h) h
    · cases ht
theorem z_gnX (C : z_X G cc own Ts nL Γ) (E : z_EX G rm mc ms nm ret Post PX Γ) {N : Nat} {tb : Nat → zI} (hT : z_tab own Ts nL ret cc N tb) (hc : cells ≤ mc) (hs : slots ≤ ms) (cut : List Nat) (k : Nat) (h : z_st1 (tb pc) pc lv st w (z_rn tb cut (fun pc lv st w => z_J G nL Γ w cells slots pc lv st) Post k) (fun pc lv st w => z_J G nL Γ w cells slots pc lv st) Post) : z_J G nL Γ w cells slots pc lv st :=
  z_goX C E hT hc hs cut k h
end ZSX
