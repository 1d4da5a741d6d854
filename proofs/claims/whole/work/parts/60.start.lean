/-! ===== a new object, and a new model ===== -/
def zIs : zMI := fun _ _ => 0
def zLs : zML := fun _ _ => 0
def zRs : zMR := fun _ _ => none
def fI : zMI := nMoI (zI0 (nTmI (zI0 zIs 0)) 96)
def fR : zMR := nMoR (zR0 (nTmR (zR0 zRs 0)) 96)
def v0 : Ly := ([], 2, 1, 10, fun _ => 0)
def s0 : St := (v0, [], none, none)
theorem fLy1 : zLay nMoS fR 1 := by unfold zLay; decide +kernel
theorem fLy18 : zLay nMoS fR 18 := by unfold zLay; decide +kernel
theorem fLy84 : zLay nMoS fR 84 := by unfold zLay; decide +kernel
theorem fLy90 : zLay nMoS fR 90 := by unfold zLay; decide +kernel
theorem fLyJ : ∀ j, j < 8 → zLay nMoS fR (36 + 6 * j) := by
  intro j hj
  rcases (show j = 0 ∨ j = 1 ∨ j = 2 ∨ j = 3 ∨ j = 4 ∨ j = 5 ∨ j = 6 ∨ j = 7 from by omega) with rfl | rfl | rfl | rfl | rfl | rfl | rfl | rfl <;> (unfold zLay; decide +kernel)
theorem fPc7 : zPcs nMoS fR 7 := by unfold zPcs; decide +kernel
theorem fPc24 : zPcs nMoS fR 24 := by unfold zPcs; decide +kernel
theorem fT : zTM nMoS fR := ⟨by decide +kernel, by decide +kernel, by decide +kernel, by decide +kernel, by decide +kernel, by decide +kernel, by decide +kernel, by decide +kernel, by decide +kernel, by decide +kernel, by decide +kernel, fLy1, fPc7, ⟨by decide +kernel, by decide +kernel, fPc7⟩, ⟨by decide +kernel, by decide +kernel, fPc7⟩, fLy18, fPc24, ⟨by decide +kernel, by decide +kernel, fPc24⟩, ⟨by decide +kernel, by decide +kernel, by decide +kernel, by decide +kernel, fLyJ⟩, fLy84, fLy90⟩
theorem fM : zMO nMoS fR := by
  unfold zMO zMod
  decide +kernel
theorem v0_ok : lyOk v0 := ⟨by decide, fun s h => absurd h List.not_mem_nil, by decide, fun i j s t h => by simp [v0] at h, by decide, by decide, by decide, by decide, fun p => Nat.zero_le _, fun p _ => rfl⟩
theorem fCI : zCI fI s0 := by
  refine ⟨⟨by decide +kernel, fun k s h => by simp [s0, v0] at h, by decide +kernel, by decide +kernel, by decide +kernel, ?_, ?_⟩, v0_ok, ⟨⟨by decide +kernel, fun p c h => by simp [s0, v0, pcs, pcsF] at h⟩, fun h => absurd rfl h, fun h => absurd rfl h, fun p hp => absurd hp (Nat.not_lt_zero p)⟩, Or.inl (by decide +kernel), ⟨0, by decide, by decide +kernel⟩, ⟨0, by decide, by decide +kernel⟩, ⟨0, by decide, by decide +kernel, by decide +kernel, by decide, fun i v h => by simp [s0] at h⟩, Or.inl ⟨rfl, by decide +kernel⟩, Or.inl ⟨rfl, by decide +kernel⟩⟩
  · show fI 1 9 = nI (fm (fun _ => 0))
    rw [fm_0]
    decide +kernel
  · show fI 1 10 = nI (fo (fun _ => 0))
    rw [fo_0]
    decide +kernel
theorem fDM : zDM fI s0 := by
  refine ⟨⟨by decide +kernel, fun k s h => by simp [s0, v0] at h, by decide +kernel, by decide +kernel, by decide +kernel, ?_⟩, v0_ok, by decide +kernel, by decide, fun i v h => by simp [s0] at h, Or.inl ⟨rfl, by decide +kernel⟩, Or.inl ⟨rfl, by decide +kernel⟩⟩
  show ∀ p, p < 14 → fI 97 (0 + (64 + p)) = nI 0
  decide +kernel
theorem zDM.hi {I J : zMI} {s : St} (h : zDM I s) (hf : ∀ p, 96 ≤ p → J p = I p) : zDM J s := by
  obtain ⟨h1, h2, h3⟩ := h
  exact ⟨by rw [hf 97 (by omega)]; exact h1, h2, h3.frame (by rw [hf 96 (by omega)]) (hf 98 (by omega)) (hf 99 (by omega)) (hf 100 (by omega))⟩
theorem zCI.lo {I J : zMI} {s : St} (h : zCI I s) (hf : ∀ p, p < 96 → J p = I p) : zCI J s := by
  obtain ⟨hv, ho, hP, hk, g1, g2, ⟨nx, g3⟩, g4, g5⟩ := h
  have e0 : J 0 = I 0 := hf 0 (by omega)
  have e17 : J 17 = I 17 := hf 17 (by omega)
  refine ⟨hv.frame (fun p p1 p2 => hf p (by omega)), ho, hP.frame (fun p p1 p2 => hf p (by omega)), ?_, by rw [e17]; exact g1, by rw [hf 33 (by omega)]; exact g2, ⟨nx, ?_⟩, g4.frame (by rw [e0]) (fun p p1 p2 => hf p (by omega)), g5.frame (by rw [e0]) (fun p p1 p2 => hf p (by omega))⟩
  · unfold zKn
    rw [e0, e17]
    exact hk
  · unfold zHi at g3 ⊢
    rw [hf 34 (by omega)]
    obtain ⟨a1, a2, a3, a4, a5⟩ := g3
    refine ⟨a1, a2, a3, a4, fun i v hi => ⟨(a5 i v hi).1.frame (fun p p1 p2 => hf p ?_), (a5 i v hi).2⟩⟩
    have := Nat.mod_lt (nx + 8 - s.2.1.length + i) (show 0 < 8 by decide)
    omega
