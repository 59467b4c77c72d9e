/-! CLASS AND REFERENCE SIDE BY SIDE -/
def zTe (wy rc su : Int32) (fl : Nat → Int32) (σ : Nat → Int32) (F : Nat → Nat → Int32) : Prop := σ 2 = wy ∧ σ 11 = rc ∧ σ 20 = su ∧ ∀ j : Nat, j < 400 → F 6 j = if (j : Int) < rc.toInt then fl j else 0
def zLs (b : Nat) (w : zW) : Prop := ∃ (wy rc su : Int32) (fl : Nat → Int32) (σ : Nat → Int32) (F : Nat → Nat → Int32), zCl b w wy rc su fl ∧ zMo (b + 32) w σ F ∧ zO b w ∧ b + 54 ≤ w.1 ∧ zTe wy rc su fl σ F
theorem zTe.ti {wy rc su : Int32} {fl : Nat → Int32} {σ : Nat → Int32} {F : Nat → Nat → Int32} {σ' : Nat → Int32} {F' : Nat → Nat → Int32} (h : zTe wy rc su fl σ F) (t : zTi σ F σ' F') : zTe wy rc su fl σ' F' := ⟨t.1.trans h.1, t.2.1.trans h.2.1, t.2.2.1.trans h.2.2.1, fun j hj => by rw [t.2.2.2]; exact h.2.2.2 j hj⟩
theorem zMo.kc {b : Nat} {w w' : zW} {σ : Nat → Int32} {F : Nat → Nat → Int32} (h : zMo (b + 32) w σ F) (hk : zKc b w w') : zMo (b + 32) w' σ F := ⟨(hk.2 _ (by omega)).trans h.1, fun k h1 h2 => (hk.2 _ (by omega)).trans (h.2.1 k h1 h2), h.2.2⟩
theorem zMo.ko {b : Nat} {w w' : zW} {σ : Nat → Int32} {F : Nat → Nat → Int32} (h : zMo (b + 32) w σ F) (hk : zKo b w w') : zMo (b + 32) w' σ F := ⟨(hk.2 _ (by omega) (by omega)).trans h.1, fun k h1 h2 => (hk.2 _ (by omega) (by omega)).trans (h.2.1 k h1 h2), h.2.2⟩
theorem zCl.km {b : Nat} {w w' : zW} {wy rc su : Int32} {fl : Nat → Int32} (h : zCl b w wy rc su fl) (hk : zKm (b + 32) w w') : zCl b w' wy rc su fl := by
  refine h.fs ((List.range 21).map (fun j => b + 32 + j)) ⟨hk.1, fun k hn => hk.2 k ?_⟩ (fun k hm => ?_)
  · by_cases q : k < b + 32 ∨ b + 32 + 20 < k
    · exact q
    · exact absurd (List.mem_map.mpr ⟨k - (b + 32), List.mem_range.mpr (by omega), by omega⟩) hn
  · obtain ⟨j, -, rfl⟩ := List.mem_map.mp hm
    omega
theorem zLs.mk3 {b : Nat} {w1 w2 : zW} {wy rc su : Int32} {fl : Nat → Int32} {σ : Nat → Int32} {F : Nat → Nat → Int32} (ho : zO b w1) (h54 : b + 54 ≤ w1.1) (k2 : zKm (b + 32) w1 w2) (hc : zCl b w1 wy rc su fl) (hm : zMo (b + 32) w2 σ F) (t : zTe wy rc su fl σ F) : zLs b w2 :=
  ⟨wy, rc, su, fl, σ, F, hc.km k2, hm, ⟨ho.choose, (k2.2 _ (Or.inr (by omega))).trans ho.choose_spec⟩, by rw [k2.1]; exact h54, t⟩
theorem pr_weak {b : Nat} {w w1 w2 : zW} {wy rc su : Int32} {fl : Nat → Int32} {σ : Nat → Int32} {F : Nat → Nat → Int32} {x2 : Option Value} (ho : zO b w) (h54 : b + 54 ≤ w.1) (t : zTe wy rc su fl σ F) (k1 : zKc b w w1) (hc : zCl b w1 wy rc su fl) (p2 : (∃ v, x2 = some (.int v)) ∧ zKm (b + 32) w1 w2 ∧ ∃ σ' F', zMo (b + 32) w2 σ' F' ∧ zTi σ F σ' F') : zLs b w2 := by
  obtain ⟨-, k2, σ', F', hm, ti⟩ := p2
  exact zLs.mk3 (ho.kc k1) (Nat.le_trans h54 k1.1) k2 hc hm (t.ti ti)
theorem pr_wo {b : Nat} {w1 w2 : zW} {wy rc su : Int32} {fl : Nat → Int32} {σ : Nat → Int32} {F : Nat → Nat → Int32} {x2 : Option Value} (ho : zO b w1) (h54 : b + 54 ≤ w1.1) (t : zTe wy rc su fl σ F) (hc : zCl b w1 wy rc su fl) (p2 : (∃ v, x2 = some (.int v)) ∧ zKm (b + 32) w1 w2 ∧ ∃ σ' F', zMo (b + 32) w2 σ' F' ∧ zTi σ F σ' F') : zLs b w2 := by
  obtain ⟨-, k2, σ', F', hm, ti⟩ := p2
  exact zLs.mk3 ho h54 k2 hc hm (t.ti ti)
theorem pr_ways {b : Nat} {w w1 w2 : zW} {wy rc su : Int32} {fl : Nat → Int32} {σ : Nat → Int32} {F : Nat → Nat → Int32} {x1 x2 : Option Value} {n : Int32} (ho : zO b w) (h54 : b + 54 ≤ w.1) (t : zTe wy rc su fl σ F)
    (p1 : zKc b w w1 ∧ ((2 ≤ n.toInt ∧ n.toInt ≤ 16 ∧ x1 = some (.int wy) ∧ zCl b w1 n rc su fl) ∨ (¬ (2 ≤ n.toInt ∧ n.toInt ≤ 16) ∧ x1 = some (.int (-4)) ∧ zCl b w1 wy rc su fl)))
    (p2 : zKm (b + 32) w1 w2 ∧ ((2 ≤ n.toInt ∧ n.toInt ≤ 16 ∧ x2 = some (.int (σ 2)) ∧ ∃ σ', zMo (b + 32) w2 σ' F ∧ σ' 2 = n ∧ σ' 11 = σ 11 ∧ σ' 20 = σ 20) ∨ (¬ (2 ≤ n.toInt ∧ n.toInt ≤ 16) ∧ x2 = some (.int (-4)) ∧ ∃ σ', zMo (b + 32) w2 σ' F ∧ σ' 2 = σ 2 ∧ σ' 11 = σ 11 ∧ σ' 20 = σ 20))) : (∃ v, x1 = some (.int v) ∧ x2 = some (.int v)) ∧ zLs b w2 := by
  obtain ⟨k1, p1⟩ := p1
  obtain ⟨k2, p2⟩ := p2
  rcases p1 with ⟨a1, a2, e1, hc⟩ | ⟨a, e1, hc⟩
  · rcases p2 with ⟨-, -, e2, σ', hm, f2, f11, f20⟩ | ⟨c, -⟩
    · exact ⟨⟨_, e1, by rw [e2, t.1]⟩, zLs.mk3 (ho.kc k1) (Nat.le_trans h54 k1.1) k2 hc hm ⟨f2, f11.trans t.2.1, f20.trans t.2.2.1, t.2.2.2⟩⟩
    · exact absurd ⟨a1, a2⟩ c
  · rcases p2 with ⟨c1, c2, -⟩ | ⟨-, e2, σ', hm, f2, f11, f20⟩
    · exact absurd ⟨c1, c2⟩ a
    · exact ⟨⟨_, e1, e2⟩, zLs.mk3 (ho.kc k1) (Nat.le_trans h54 k1.1) k2 hc hm ⟨f2.trans t.1, f11.trans t.2.1, f20.trans t.2.2.1, t.2.2.2⟩⟩
theorem pr_record {b : Nat} {w w1 w2 : zW} {wy rc su : Int32} {fl : Nat → Int32} {σ : Nat → Int32} {F : Nat → Nat → Int32} {x1 x2 : Option Value} (ho : zO b w) (h54 : b + 54 ≤ w.1) (t : zTe wy rc su fl σ F) (hb : 0 ≤ (σ 11).toInt)
    (p1 : zKc b w w1 ∧ ((rc.toInt < 400 ∧ x1 = some (.int (rc + 1)) ∧ zCl b w1 wy (rc + 1) su (upd fl rc.toNatClampNeg 0)) ∨ (rc.toInt = 400 ∧ x1 = some (.int (-1)) ∧ zCl b w1 wy rc su fl)))
    (p2 : zKm (b + 32) w1 w2 ∧ (((σ 11).toInt < 400 ∧ x2 = some (.int (σ 11 + 1)) ∧ ∃ σ', zMo (b + 32) w2 σ' F ∧ σ' 2 = σ 2 ∧ σ' 11 = σ 11 + 1 ∧ σ' 20 = σ 20) ∨ ((σ 11).toInt = 400 ∧ x2 = some (.int (-1)) ∧ ∃ σ', zMo (b + 32) w2 σ' F ∧ σ' 2 = σ 2 ∧ σ' 11 = σ 11 ∧ σ' 20 = σ 20))) : (∃ v, x1 = some (.int v) ∧ x2 = some (.int v)) ∧ zLs b w2 := by
  obtain ⟨k1, p1⟩ := p1
  obtain ⟨k2, p2⟩ := p2
  rw [t.2.1] at hb p2
  rcases p1 with ⟨a, e1, hc⟩ | ⟨a, e1, hc⟩
  · rcases p2 with ⟨-, e2, σ', hm, f2, f11, f20⟩ | ⟨c, -⟩
    · refine ⟨⟨_, e1, e2⟩, zLs.mk3 (ho.kc k1) (Nat.le_trans h54 k1.1) k2 hc hm ⟨f2.trans t.1, f11, f20.trans t.2.2.1, fun j hj => ?_⟩⟩
      have q1 := t.2.2.2 j hj
      have q2 := zi_a1 (x := rc) (by omega) (by omega)
      have q3 := zi_nat (x := rc) hb
      unfold upd
      by_cases q : j = rc.toNatClampNeg
      · rw [q1, if_neg (by omega), if_pos (by omega), if_pos q]
      · by_cases q4 : (j : Int) < rc.toInt
        · rw [q1, if_pos q4, if_pos (by omega), if_neg q]
        · rw [q1, if_neg q4, if_neg (by omega)]
    · omega
  · rcases p2 with ⟨c, -⟩ | ⟨-, e2, σ', hm, f2, f11, f20⟩
    · omega
    · exact ⟨⟨_, e1, e2⟩, zLs.mk3 (ho.kc k1) (Nat.le_trans h54 k1.1) k2 hc hm ⟨f2.trans t.1, f11, f20.trans t.2.2.1, t.2.2.2⟩⟩
theorem zLen_eq {fl f : Nat → Int32} {r i : Int32} (h : f (r - 1).toNatClampNeg = fl (r - 1).toNatClampNeg) (hi : 0 ≤ i.toInt ∧ i.toInt < 32) : zLen fl r i = zLenM f r i := by
  unfold zLen zLenM
  rw [h]
  have e := zi_a1 (x := i) (by omega) (by omega)
  by_cases q : i < fl (r - 1).toNatClampNeg
  · rw [if_pos q, if_neg (by rw [zi_lt] at q ⊢; omega)]
  · rw [if_neg q, if_pos (by rw [zi_lt] at q ⊢; omega)]
theorem pr_octet {b : Nat} {w w1 w2 : zW} {wy rc su : Int32} {fl : Nat → Int32} {σ : Nat → Int32} {F : Nat → Nat → Int32} {x1 x2 : Option Value} {r i : Int32} (ho : zO b w) (h54 : b + 54 ≤ w.1) (t : zTe wy rc su fl σ F) (hb : (σ 11).toInt ≤ 400)
    (p1 : zKc b w w1 ∧ ((¬ (1 ≤ r.toInt ∧ r.toInt ≤ rc.toInt) ∧ x1 = some (.int (-2)) ∧ zCl b w1 wy rc su fl) ∨ ((1 ≤ r.toInt ∧ r.toInt ≤ rc.toInt) ∧ ¬ (0 ≤ i.toInt ∧ i.toInt < 32) ∧ x1 = some (.int (-4)) ∧ zCl b w1 wy rc su fl) ∨ ((1 ≤ r.toInt ∧ r.toInt ≤ rc.toInt) ∧ (0 ≤ i.toInt ∧ i.toInt < 32) ∧ x1 = some (.int (zLen fl r i)) ∧ zCl b w1 wy rc su (upd fl (r - 1).toNatClampNeg (zLen fl r i)))))
    (p2 : zKm (b + 32) w1 w2 ∧ ((¬ (1 ≤ r.toInt ∧ r.toInt ≤ (σ 11).toInt) ∧ x2 = some (.int (-2)) ∧ ∃ σ' F', zMo (b + 32) w2 σ' F' ∧ zTi σ F σ' F') ∨ ((1 ≤ r.toInt ∧ r.toInt ≤ (σ 11).toInt) ∧ ¬ (0 ≤ i.toInt ∧ i.toInt < 32) ∧ x2 = some (.int (-4)) ∧ ∃ σ' F', zMo (b + 32) w2 σ' F' ∧ zTi σ F σ' F') ∨ ((1 ≤ r.toInt ∧ r.toInt ≤ (σ 11).toInt) ∧ (0 ≤ i.toInt ∧ i.toInt < 32) ∧ x2 = some (.int (zLenM (F 6) r i)) ∧ ∃ σ' F', zMo (b + 32) w2 σ' F' ∧ σ' 2 = σ 2 ∧ σ' 11 = σ 11 ∧ σ' 20 = σ 20 ∧ F' 6 = upd (F 6) (r - 1).toNatClampNeg (zLenM (F 6) r i)))) : (∃ v, x1 = some (.int v) ∧ x2 = some (.int v)) ∧ zLs b w2 := by
  obtain ⟨k1, p1⟩ := p1
  obtain ⟨k2, p2⟩ := p2
  rw [t.2.1] at hb p2
  rcases p1 with ⟨a, e1, hc⟩ | ⟨a, a2, e1, hc⟩ | ⟨a, a2, e1, hc⟩
  · rcases p2 with ⟨-, e2, σ', F', hm, ti⟩ | ⟨c, -⟩ | ⟨c, -⟩
    · exact ⟨⟨_, e1, e2⟩, zLs.mk3 (ho.kc k1) (Nat.le_trans h54 k1.1) k2 hc hm (t.ti ti)⟩
    · exact absurd c a
    · exact absurd c a
  · rcases p2 with ⟨c, -⟩ | ⟨-, -, e2, σ', F', hm, ti⟩ | ⟨-, c, -⟩
    · exact absurd a c
    · exact ⟨⟨_, e1, e2⟩, zLs.mk3 (ho.kc k1) (Nat.le_trans h54 k1.1) k2 hc hm (t.ti ti)⟩
    · exact absurd c a2
  · rcases p2 with ⟨c, -⟩ | ⟨-, c, -⟩ | ⟨-, -, e2, σ', F', hm, f2, f11, f20, f6⟩
    · exact absurd a c
    · exact absurd a2 c
    · have q2 := zi_s1 (x := r) (by omega) (by omega)
      have q3 := zi_nat (x := r - 1) (by omega)
      have q4 : F 6 (r - 1).toNatClampNeg = fl (r - 1).toNatClampNeg := by rw [t.2.2.2 _ (by omega), if_pos (by omega)]
      have q5 := zLen_eq (fl := fl) (f := F 6) (r := r) (i := i) q4 a2
      refine ⟨⟨_, e1, by rw [e2, q5]⟩, zLs.mk3 (ho.kc k1) (Nat.le_trans h54 k1.1) k2 hc hm ⟨f2.trans t.1, f11, f20.trans t.2.2.1, fun j hj => ?_⟩⟩
      have q6 := t.2.2.2 j hj
      rw [f6, q5]
      unfold upd
      by_cases q : j = (r - 1).toNatClampNeg
      · rw [if_pos q, if_pos (by omega), if_pos q]
      · rw [if_neg q, if_neg q]
        exact q6
theorem pr_sum {b : Nat} {w w1 w2 : zW} {wy rc su : Int32} {fl : Nat → Int32} {σ : Nat → Int32} {F : Nat → Nat → Int32} {x1 x2 : Option Value} {fr sz : Int32} (ho : zO b w) (h54 : b + 54 ≤ w.1) (t : zTe wy rc su fl σ F)
    (p1 : zKc b w w1 ∧ ((zFld fr sz 8 = 0 ∧ x1 = some (.int (-4)) ∧ zCl b w1 wy rc su fl) ∨ (¬ zFld fr sz 8 = 0 ∧ su.toInt = 4 ∧ x1 = some (.int (-1)) ∧ zCl b w1 wy rc su fl) ∨ (¬ zFld fr sz 8 = 0 ∧ su.toInt < 4 ∧ x1 = some (.int (su + 1)) ∧ zCl b w1 wy rc (su + 1) fl)))
    (p2 : zKm (b + 32) w1 w2 ∧ ((zFld fr sz 8 = 0 ∧ x2 = some (.int (-4)) ∧ ∃ σ' F', zMo (b + 32) w2 σ' F' ∧ zTi σ F σ' F') ∨ (¬ zFld fr sz 8 = 0 ∧ (σ 20).toInt = 4 ∧ x2 = some (.int (-1)) ∧ ∃ σ' F', zMo (b + 32) w2 σ' F' ∧ zTi σ F σ' F') ∨ (¬ zFld fr sz 8 = 0 ∧ (σ 20).toInt < 4 ∧ x2 = some (.int (σ 20 + 1)) ∧ ∃ σ' F', zMo (b + 32) w2 σ' F' ∧ σ' 2 = σ 2 ∧ σ' 11 = σ 11 ∧ σ' 20 = σ 20 + 1 ∧ F' 6 = F 6))) : (∃ v, x1 = some (.int v) ∧ x2 = some (.int v)) ∧ zLs b w2 := by
  obtain ⟨k1, p1⟩ := p1
  obtain ⟨k2, p2⟩ := p2
  rw [t.2.2.1] at p2
  rcases p1 with ⟨a, e1, hc⟩ | ⟨a, a2, e1, hc⟩ | ⟨a, a2, e1, hc⟩
  · rcases p2 with ⟨-, e2, σ', F', hm, ti⟩ | ⟨c, -⟩ | ⟨c, -⟩
    · exact ⟨⟨_, e1, e2⟩, zLs.mk3 (ho.kc k1) (Nat.le_trans h54 k1.1) k2 hc hm (t.ti ti)⟩
    · exact absurd a c
    · exact absurd a c
  · rcases p2 with ⟨c, -⟩ | ⟨-, -, e2, σ', F', hm, ti⟩ | ⟨-, c, -⟩
    · exact absurd c a
    · exact ⟨⟨_, e1, e2⟩, zLs.mk3 (ho.kc k1) (Nat.le_trans h54 k1.1) k2 hc hm (t.ti ti)⟩
    · omega
  · rcases p2 with ⟨c, -⟩ | ⟨-, c, -⟩ | ⟨-, -, e2, σ', F', hm, f2, f11, f20, f6⟩
    · exact absurd c a
    · omega
    · exact ⟨⟨_, e1, e2⟩, zLs.mk3 (ho.kc k1) (Nat.le_trans h54 k1.1) k2 hc hm ⟨f2.trans t.1, f11.trans t.2.1, f20, fun j hj => by rw [f6]; exact t.2.2.2 j hj⟩⟩
theorem pr_incl {b : Nat} {w w1 w2 : zW} {wy rc su : Int32} {fl : Nat → Int32} {σ : Nat → Int32} {F : Nat → Nat → Int32} {x1 x2 : Option Value} {i op v : Int32} (ho : zO b w) (h54 : b + 54 ≤ w.1) (t : zTe wy rc su fl σ F)
    (p1 : zKc b w w1 ∧ zCl b w1 wy rc su fl ∧ x1 = some (.int (zA_incl i op v))) (p2 : zKm (b + 32) w1 w2 ∧ x2 = some (.int (zA_incl i op v)) ∧ ∃ σ', zMo (b + 32) w2 σ' F ∧ zTi σ F σ' F) : (∃ v, x1 = some (.int v) ∧ x2 = some (.int v)) ∧ zLs b w2 := by
  obtain ⟨k1, hc, e1⟩ := p1
  obtain ⟨k2, e2, σ', hm, ti⟩ := p2
  exact ⟨⟨_, e1, e2⟩, zLs.mk3 (ho.kc k1) (Nat.le_trans h54 k1.1) k2 hc hm (t.ti ti)⟩
theorem pr_exit {b : Nat} {w w1 w2 : zW} {wy rc su : Int32} {fl : Nat → Int32} {σ : Nat → Int32} {F : Nat → Nat → Int32} {x1 x2 : Option Value} {k d f : Int32} (ho : zO b w) (h54 : b + 54 ≤ w.1) (t : zTe wy rc su fl σ F)
    (p1 : zKc b w w1 ∧ zCl b w1 wy rc su fl ∧ x1 = some (.int (zA_exit k d f))) (p2 : zKm (b + 32) w1 w2 ∧ x2 = some (.int (zA_exit k d f)) ∧ ∃ σ' F', zMo (b + 32) w2 σ' F' ∧ zTi σ F σ' F') : (∃ v, x1 = some (.int v) ∧ x2 = some (.int v)) ∧ zLs b w2 := by
  obtain ⟨k1, hc, e1⟩ := p1
  obtain ⟨k2, e2, σ', F', hm, ti⟩ := p2
  exact ⟨⟨_, e1, e2⟩, zLs.mk3 (ho.kc k1) (Nat.le_trans h54 k1.1) k2 hc hm (t.ti ti)⟩
theorem zA_aeq {n : Int32} (h : 0 ≤ n.toInt) : zA_areaM n = zA_area n := by
  unfold zA_areaM zA_area
  rw [if_neg (by omega)]
theorem z_cmp0 (x : Int64) : lg_cmp x x = 0 := by
  unfold lg_cmp
  simp
theorem zvi {i : Int32} {L : Nat} (hi : 0 ≤ i.toInt ∧ i.toInt + 5 ≤ L) (hL : L ≤ 2560) (j : Int32) (hj : 0 ≤ j.toInt ∧ j.toInt < 5) : vp_in (i + j) L := by
  have e : (i + j).toInt = i.toInt + j.toInt := zi_add (by omega) (by omega)
  exact vp_in_iff.mpr (by omega)
