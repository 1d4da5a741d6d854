/-! ===== what can be undone ===== -/
def zHi (I : zMI) (b lb : Nat) (h : List Ly) (nx : Nat) : Prop := nx < 8 ∧ I b 1 = nI nx ∧ I b 2 = nI h.length ∧ h.length ≤ 8 ∧ ∀ (i : Nat) (v : Ly), h[i]? = some v → zCLy I (lb + 6 * ((nx + 8 - h.length + i) % 8)) v ∧ lyOk v
def hpush (h : List Ly) (v : Ly) : List Ly := if h.length = 8 then h.drop 1 ++ [v] else h ++ [v]
theorem hpush_len {h : List Ly} {v : Ly} (hl : h.length ≤ 8) : (hpush h v).length = min 8 (h.length + 1) := by
  unfold hpush
  split
  · rw [List.length_append, List.length_drop, List.length_singleton]; omega
  · rw [List.length_append, List.length_singleton]; omega
theorem getL_lt {l : List Ly} {i : Nat} {v : Ly} (h : l[i]? = some v) : i < l.length := (List.getElem?_eq_some_iff.mp h).1
theorem zHi_push {I J : zMI} {b lb nx : Nat} {h : List Ly} {v : Ly} (hh : zHi I b lb h nx) (hv : lyOk v) (hJ : zWr I J (lb + 6 * nx) v) (hd : b < lb ∨ lb + 47 < b) {x y : Int32} (hx : x = nI ((nx + 1) % 8)) (hy : y = nI (min 8 (h.length + 1))) : zHi (zu (zu J b 1 x) b 2 y) b lb (hpush h v) ((nx + 1) % 8) := by
  obtain ⟨h0, h1, h2, h3, h4⟩ := hh
  have hl := hpush_len (v := v) h3
  refine ⟨by omega, by rw [zu_nk (Or.inr (by omega)), zu_same, hx], by rw [zu_same, hl, hy], by rw [hl]; omega, fun i w hi => ?_⟩
  have hil := getL_lt hi
  have fr : ∀ (k : Nat) (u : Ly), k < 8 → k ≠ nx → zCLy I (lb + 6 * k) u → zCLy (zu (zu J b 1 x) b 2 y) (lb + 6 * k) u := by
    intro k u hk hkn hz
    refine hz.frame (fun p p1 p2 => ?_)
    rw [zu_ne (by omega), zu_ne (by omega)]
    exact hJ.2 p (by omega)
  have nw : zCLy (zu (zu J b 1 x) b 2 y) (lb + 6 * nx) v := by
    refine hJ.1.frame (fun p p1 p2 => ?_)
    rw [zu_ne (by omega), zu_ne (by omega)]
  rw [hl]
  rw [hl] at hil
  unfold hpush at hi
  by_cases e8 : h.length = 8
  · rw [if_pos e8] at hi
    have hdl : (h.drop 1).length = 7 := by rw [List.length_drop]; omega
    by_cases e : i < 7
    · rw [List.getElem?_append_left (by omega), List.getElem?_drop] at hi
      have h5 := h4 (1 + i) w hi
      have e2 : ((nx + 1) % 8 + 8 - min 8 (h.length + 1) + i) % 8 = (nx + 8 - h.length + (1 + i)) % 8 := by omega
      rw [e2]
      exact ⟨fr _ w (by omega) (by omega) h5.1, h5.2⟩
    · rw [List.getElem?_append_right (by omega), hdl] at hi
      have : i = 7 := by omega
      subst this
      cases hi
      have e2 : ((nx + 1) % 8 + 8 - min 8 (h.length + 1) + 7) % 8 = nx := by omega
      rw [e2]
      exact ⟨nw, hv⟩
  · rw [if_neg e8] at hi
    by_cases e : i < h.length
    · rw [List.getElem?_append_left e] at hi
      have h5 := h4 i w hi
      have e2 : ((nx + 1) % 8 + 8 - min 8 (h.length + 1) + i) % 8 = (nx + 8 - h.length + i) % 8 := by omega
      rw [e2]
      exact ⟨fr _ w (by omega) (by omega) h5.1, h5.2⟩
    · rw [List.getElem?_append_right (by omega)] at hi
      have : i = h.length := by omega
      subst this
      rw [Nat.sub_self] at hi
      cases hi
      have e2 : ((nx + 1) % 8 + 8 - min 8 (h.length + 1) + h.length) % 8 = nx := by omega
      rw [e2]
      exact ⟨nw, hv⟩
theorem zHi_pop {I J : zMI} {b lb nx : Nat} {h : List Ly} {v : Ly} (hh : zHi I b lb (h ++ [v]) nx) (hJ : ∀ p, (lb ≤ p ∧ p ≤ lb + 47) → J p = I p) (hd : b < lb ∨ lb + 47 < b) (h1 : J b 1 = nI ((nx + 7) % 8)) (h2 : J b 2 = nI h.length) : zHi J b lb h ((nx + 7) % 8) := by
  obtain ⟨g0, g1, g2, g3, g4⟩ := hh
  rw [List.length_append, List.length_singleton] at g3 g4
  refine ⟨by omega, h1, h2, by omega, fun i w hi => ?_⟩
  have hil := getL_lt hi
  have h5 := g4 i w (by rw [List.getElem?_append_left hil]; exact hi)
  have e2 : ((nx + 7) % 8 + 8 - h.length + i) % 8 = (nx + 8 - (h.length + 1) + i) % 8 := by omega
  rw [e2]
  exact ⟨h5.1.frame (fun p p1 p2 => hJ p (by omega)), h5.2⟩
theorem zHi_last {I : zMI} {b lb nx : Nat} {h : List Ly} {v : Ly} (hh : zHi I b lb (h ++ [v]) nx) : zCLy I (lb + 6 * ((nx + 7) % 8)) v ∧ lyOk v := by
  obtain ⟨g0, g1, g2, g3, g4⟩ := hh
  rw [List.length_append, List.length_singleton] at g3 g4
  have h5 := g4 h.length v (by rw [List.getElem?_append_right (by omega), Nat.sub_self]; rfl)
  have e2 : (nx + 8 - (h.length + 1) + h.length) % 8 = (nx + 7) % 8 := by omega
  rw [e2] at h5
  exact h5
theorem zHi.frame {I J : zMI} {b lb nx : Nat} {h : List Ly} (hh : zHi I b lb h nx) (h1 : J b = I b) (hJ : ∀ p, (lb ≤ p ∧ p ≤ lb + 47) → J p = I p) : zHi J b lb h nx := by
  obtain ⟨g0, g1, g2, g3, g4⟩ := hh
  refine ⟨g0, by rw [h1]; exact g1, by rw [h1]; exact g2, g3, fun i w hi => ?_⟩
  have h5 := g4 i w hi
  exact ⟨h5.1.frame (fun p p1 p2 => hJ p (by omega)), h5.2⟩
theorem zHi_nil {I J : zMI} {b lb nx : Nat} {h : List Ly} (hh : zHi I b lb h nx) (h1 : J b 1 = I b 1) (h2 : J b 2 = nI 0) : zHi J b lb [] nx := ⟨hh.1, h1.trans hh.2.1, h2, by simp, fun i v hi => by simp at hi⟩
theorem nmin_eq {a c : Nat} (ha : a ≤ 1000000) (hc : c ≤ 1000000) : (if nI c < nI a then nI c else nI a) = nI (min a c) := by
  rw [nI_zi, nI_zi, zmin_eq (by omega) (by omega) (by omega) (by omega), nI_zi]
  congr 1
  omega
