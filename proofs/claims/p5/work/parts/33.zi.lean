/-- from w0 on: the object's cell is this one, the rest is well, nothing beyond the class has changed -/
def zIv (b : Nat) (w0 w : zW) (cell : zC) (rc su : Int32) (fl : Nat → Int32) : Prop := w.2 b = some cell ∧ zRest b w rc su fl ∧ zKc b w0 w
theorem zIv.line {b : Nat} {w0 w w' : zW} {cell : zC} {rc su : Int32} {fl : Nat → Int32} (h : zIv b w0 w cell rc su fl) (S : List Nat) (hf : z_fr S w w') (hS : ∀ k ∈ S, b + 14 ≤ k ∧ k ≤ b + 18) {he rn as : Int32} (hl : zLi b w' he rn as) : zIv b w0 w' cell rc su fl := by
  obtain ⟨h0, ⟨r1, r2, ⟨td, r3⟩, r4, r5, r6, r7, r8, r9, r10, r11, r12⟩, hk⟩ := h
  have n : ∀ k, k < b + 14 ∨ b + 18 < k → k ∉ S := fun k hk hm => by have := hS k hm; omega
  exact ⟨(hf.2 b (n _ (by omega))).trans h0, ⟨r1.fr _ hf ⟨n _ (by omega), n _ (by omega), n _ (by omega), n _ (by omega)⟩, r2.fr _ hf ⟨n _ (by omega), n _ (by omega), n _ (by omega), n _ (by omega)⟩, ⟨td, r3.fr _ hf (fun k hk => by have := hS k hk; omega)⟩, ⟨he, rn, as, hl⟩, r5.fr _ hf (n _ (by omega)), r6.fr _ hf (fun k hk => by have := hS k hk; omega), r7.fr _ hf (n _ (by omega)), r8.fr _ hf (n _ (by omega)), r9.fr _ hf (fun k hk => by have := hS k hk; omega), r10.fr _ hf (n _ (by omega)), r11.fr _ hf (n _ (by omega)), r12.fr _ hf (n _ (by omega))⟩, hk.fr hf (fun k hk => by have := hS k hk; omega)⟩
theorem zIv.copy {b : Nat} {w0 w w' : zW} {cell : zC} {rc su : Int32} {fl : Nat → Int32} (h : zIv b w0 w cell rc su fl) (S : List Nat) (hf : z_fr S w w') (hS : ∀ k ∈ S, b + 1 ≤ k ∧ k ≤ b + 4) (hc : zCp b w') : zIv b w0 w' cell rc su fl := by
  obtain ⟨h0, ⟨r1, r2, ⟨td, r3⟩, ⟨he, rn, as, r4⟩, r5, r6, r7, r8, r9, r10, r11, r12⟩, hk⟩ := h
  have n : ∀ k, k < b + 1 ∨ b + 4 < k → k ∉ S := fun k hk hm => by have := hS k hm; omega
  exact ⟨(hf.2 b (n _ (by omega))).trans h0, ⟨hc, r2.fr _ hf ⟨n _ (by omega), n _ (by omega), n _ (by omega), n _ (by omega)⟩, ⟨td, r3.fr _ hf (fun k hk => by have := hS k hk; omega)⟩, ⟨he, rn, as, r4.fr _ hf (fun k hk => by have := hS k hk; omega)⟩, r5.fr _ hf (n _ (by omega)), r6.fr _ hf (fun k hk => by have := hS k hk; omega), r7.fr _ hf (n _ (by omega)), r8.fr _ hf (n _ (by omega)), r9.fr _ hf (fun k hk => by have := hS k hk; omega), r10.fr _ hf (n _ (by omega)), r11.fr _ hf (n _ (by omega)), r12.fr _ hf (n _ (by omega))⟩, hk.fr hf (fun k hk => by have := hS k hk; omega)⟩
/-- an exit and the copies -/
theorem zIv.exit {b : Nat} {w0 w w' : zW} {cell : zC} {rc su : Int32} {fl : Nat → Int32} (h : zIv b w0 w cell rc su fl) (t : Nat) (ht : t = b + 24 ∨ t = b + 25) (S : List Nat) (hf : z_fr S w w') (hS : ∀ k ∈ S, k = t ∨ (b + 1 ≤ k ∧ k ≤ b + 4)) (hx : zEx t w') (hc : zCp b w') : zIv b w0 w' cell rc su fl := by
  obtain ⟨h0, ⟨r1, r2, ⟨td, r3⟩, ⟨he, rn, as, r4⟩, r5, r6, r7, r8, r9, r10, r11, r12⟩, hk⟩ := h
  have n : ∀ k, ¬ k = t → k < b + 1 ∨ b + 4 < k → k ∉ S := fun k h1 hk hm => by have := hS k hm; omega
  have hx2 : ∀ q, zEx q w → b + 4 < q → zEx q w' := fun q hq hl => by
    by_cases e : q = t
    · rw [e]; exact hx
    · exact hq.fr _ hf (n _ e (by omega))
  exact ⟨(hf.2 b (n _ (by omega) (by omega))).trans h0, ⟨hc, r2.fr _ hf ⟨n _ (by omega) (by omega), n _ (by omega) (by omega), n _ (by omega) (by omega), n _ (by omega) (by omega)⟩, ⟨td, r3.fr _ hf (fun k hk => by have := hS k hk; omega)⟩, ⟨he, rn, as, r4.fr _ hf (fun k hk => by have := hS k hk; omega)⟩, r5.fr _ hf (n _ (by omega) (by omega)), r6.fr _ hf (fun k hk => by have := hS k hk; omega), hx2 _ r7 (by omega), hx2 _ r8 (by omega), r9.fr _ hf (fun k hk => by have := hS k hk; omega), r10.fr _ hf (n _ (by omega) (by omega)), r11.fr _ hf (n _ (by omega) (by omega)), r12.fr _ hf (n _ (by omega) (by omega))⟩, hk.fr hf (fun k hk => by have := hS k hk; omega)⟩
theorem zIv.tally {b : Nat} {w0 w : zW} {cell : zC} {rc su : Int32} {fl : Nat → Int32} (h : zIv b w0 w cell rc su fl) (t : Nat) (ht : t = b + 30 ∨ t = b + 31) (x1 x2 x3 x4 x5 : Int32) : zIv b w0 (z_up w t (.inr (8, [.int x1, .int x2, .int x3, .int x4, .int x5]))) cell rc su fl := by
  obtain ⟨h0, ⟨r1, r2, ⟨td, r3⟩, ⟨he, rn, as, r4⟩, r5, r6, r7, r8, r9, r10, r11, r12⟩, hk⟩ := h
  have hf : z_fr [t] w (z_up w t (.inr (8, [.int x1, .int x2, .int x3, .int x4, .int x5]))) := (z_fr.rf _ _).up _ _ (by simp)
  have n : ∀ k, ¬ k = t → k ∉ [t] := fun k h1 hm => h1 (by simpa using hm)
  have hS : ∀ k ∈ [t], k = t := fun k hm => by simpa using hm
  have hx2 : ∀ q, zTa q w → zTa q (z_up w t (.inr (8, [.int x1, .int x2, .int x3, .int x4, .int x5]))) := fun q hq => by
    by_cases e : q = t
    · exact ⟨x1, x2, x3, x4, x5, by rw [z_up_2, if_pos e]⟩
    · exact hq.fr _ hf (n _ e)
  exact ⟨(hf.2 b (n _ (by omega))).trans h0, ⟨r1.fr _ hf ⟨n _ (by omega), n _ (by omega), n _ (by omega), n _ (by omega)⟩, r2.fr _ hf ⟨n _ (by omega), n _ (by omega), n _ (by omega), n _ (by omega)⟩, ⟨td, r3.fr _ hf (fun k hk => by have := hS k hk; omega)⟩, ⟨he, rn, as, r4.fr _ hf (fun k hk => by have := hS k hk; omega)⟩, r5.fr _ hf (n _ (by omega)), r6.fr _ hf (fun k hk => by have := hS k hk; omega), r7.fr _ hf (n _ (by omega)), r8.fr _ hf (n _ (by omega)), r9.fr _ hf (fun k hk => by have := hS k hk; omega), r10.fr _ hf (n _ (by omega)), hx2 _ r11, hx2 _ r12⟩, hk.fr hf (fun k hk => by have := hS k hk; omega)⟩
/-- the sums' trial and the copies -/
theorem zIv.sums {b : Nat} {w0 w w' : zW} {cell : zC} {rc su : Int32} {fl : Nat → Int32} (h : zIv b w0 w cell rc su fl) (S : List Nat) (hf : z_fr S w w') (hS : ∀ k ∈ S, k = b + 23 ∨ (b + 1 ≤ k ∧ k ≤ b + 4)) (hx : zSu b w' su) (hc : zCp b w') : zIv b w0 w' cell rc su fl := by
  obtain ⟨h0, ⟨r1, r2, ⟨td, r3⟩, ⟨he, rn, as, r4⟩, r5, r6, r7, r8, r9, r10, r11, r12⟩, hk⟩ := h
  have n : ∀ k, ¬ k = b + 23 → k < b + 1 ∨ b + 4 < k → k ∉ S := fun k h1 hk hm => by have := hS k hm; omega
  exact ⟨(hf.2 b (n _ (by omega) (by omega))).trans h0, ⟨hc, r2.fr _ hf ⟨n _ (by omega) (by omega), n _ (by omega) (by omega), n _ (by omega) (by omega), n _ (by omega) (by omega)⟩, ⟨td, r3.fr _ hf (fun k hk => by have := hS k hk; omega)⟩, ⟨he, rn, as, r4.fr _ hf (fun k hk => by have := hS k hk; omega)⟩, r5.fr _ hf (n _ (by omega) (by omega)), hx, r7.fr _ hf (n _ (by omega) (by omega)), r8.fr _ hf (n _ (by omega) (by omega)), r9.fr _ hf (fun k hk => by have := hS k hk; omega), r10.fr _ hf (n _ (by omega) (by omega)), r11.fr _ hf (n _ (by omega) (by omega)), r12.fr _ hf (n _ (by omega) (by omega))⟩, hk.fr hf (fun k hk => by have := hS k hk; omega)⟩
theorem zIv.inp {b : Nat} {w0 w w' : zW} {cell : zC} {rc su : Int32} {fl : Nat → Int32} (h : zIv b w0 w cell rc su fl) (S : List Nat) (hf : z_fr S w w') (hS : ∀ k ∈ S, b + 26 ≤ k ∧ k ≤ b + 28) (hx : zIn b w') : zIv b w0 w' cell rc su fl := by
  obtain ⟨h0, ⟨r1, r2, ⟨td, r3⟩, ⟨he, rn, as, r4⟩, r5, r6, r7, r8, r9, r10, r11, r12⟩, hk⟩ := h
  have n : ∀ k, k < b + 26 ∨ b + 28 < k → k ∉ S := fun k hk hm => by have := hS k hm; omega
  exact ⟨(hf.2 b (n _ (by omega))).trans h0, ⟨r1.fr _ hf ⟨n _ (by omega), n _ (by omega), n _ (by omega), n _ (by omega)⟩, r2.fr _ hf ⟨n _ (by omega), n _ (by omega), n _ (by omega), n _ (by omega)⟩, ⟨td, r3.fr _ hf (fun k hk => by have := hS k hk; omega)⟩, ⟨he, rn, as, r4.fr _ hf (fun k hk => by have := hS k hk; omega)⟩, r5.fr _ hf (n _ (by omega)), r6.fr _ hf (fun k hk => by have := hS k hk; omega), r7.fr _ hf (n _ (by omega)), r8.fr _ hf (n _ (by omega)), hx, r10.fr _ hf (n _ (by omega)), r11.fr _ hf (n _ (by omega)), r12.fr _ hf (n _ (by omega))⟩, hk.fr hf (fun k hk => by have := hS k hk; omega)⟩
