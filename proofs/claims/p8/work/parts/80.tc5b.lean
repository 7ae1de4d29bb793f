/-! ===== receivers ===== -/
theorem sy_pop {cat pc : Nat} {lv : XL} {st : List XV} {w : XW} {k n : Nat} {x : XV} (h : xcat x = cat) : xh_pop cat pc lv (x :: st) w k n = some (.inl (pc + 1, lv, st, w, k, n)) := by
  unfold xh_pop
  dsimp only
  rw [if_pos h]
theorem ycat_0 {x : XV} (h : xkd x = 0) : xcat x = 1 := by
  match x, h with
  | .inl _, _ => rfl
  | .inr (.inl _), h => cases h
  | .inr (.inr _), h => cases h
theorem ycat_1 {x : XV} (h : xkd x = 1) : xcat x = 2 := by
  match x, h with
  | .inr (.inl _), _ => rfl
  | .inl _, h => cases h
  | .inr (.inr _), h => cases h
theorem yrec_0 {ks : List Nat} {w : XW} (hW : yW ks w) {as : List XV} : xrecv w 9 (.inr (.inr (1, 0)) :: as) = true := by
  obtain ⟨fs, h, _⟩ := yheap_f hW.1 hW.2.1 (show yKD 0 = some yK_0 from rfl)
  exact xrecv_at h
theorem yrec_57 {ks : List Nat} {w : XW} (hW : yW ks w) {as : List XV} : xrecv w 10 (.inr (.inr (1, 57)) :: as) = true := by
  obtain ⟨fs, h, _⟩ := yheap_f hW.1 hW.2.2.1 (show yKD 30 = some yK_30 from rfl)
  exact xrecv_at h
