/-! ===== the rows and texts behind both constructors ===== -/
set_option maxRecDepth 100000 in
theorem zv0 : zV yKS0 xw0 := by
  refine ⟨fun _ => none, yw0.1, ⟨[], (List.append_nil _).symm, fun k hk => by cases hk⟩, ⟨rfl, rfl, fun s hs => ?_⟩, ⟨_, _, rfl, rfl, rfl, rfl, fun s hs => ?_⟩, ⟨_, _, rfl, rfl, rfl, rfl, fun s hs => ?_⟩⟩
  · have : s = 0 ∨ s = 1 ∨ s = 2 ∨ s = 3 ∨ s = 4 ∨ s = 5 ∨ s = 6 ∨ s = 7 ∨ s = 8 ∨ s = 9 := by omega
    rcases this with rfl | rfl | rfl | rfl | rfl | rfl | rfl | rfl | rfl | rfl <;> exact ⟨-1, _, rfl, rfl, rfl, by show (-1 : Int) < 0; decide⟩
  · have : s = 0 ∨ s = 1 ∨ s = 2 ∨ s = 3 ∨ s = 4 ∨ s = 5 := by omega
    rcases this with rfl | rfl | rfl | rfl | rfl | rfl <;> exact ⟨-9, rfl, by show (-9 : Int) < 0; decide⟩
  · have : s = 0 ∨ s = 1 ∨ s = 2 ∨ s = 3 := by omega
    rcases this with rfl | rfl | rfl | rfl <;> exact ⟨-9, rfl, by show (-9 : Int) < 0; decide⟩
/-! ===== the law, from its entry ===== -/
def ysc (xs : Nat → Int32) (L : Nat) : List XV := (List.range L).map (fun j => .inl (yv xs j, yv xs j))
set_option maxHeartbeats 4000000 in
theorem whole_start {p : Program} {e : Env} {s : State} {m : MethodId} {below : List Frame} {meth : Method} {c : Code} (l : Launch) {b L : Nat} {xs : Nat → Int32} (hL : L ≤ 3072) (C0 : lw_At p s m meth c b L xs) : W p l e room_1 s m #[Value.ref b] below meth c s.heap [] 0 0 (lw_Z below #[Value.ref b] s) (entryFrame m ([Value.ref b] : List Value).toArray 4) := by
  obtain ⟨hx, hb, hr, hml, hown, hts, hX, hbl, hlocks, hgv⟩ := id C0
  obtain ⟨D, tA, ex, hex, hEn⟩ := xlaw_env hts hX hbl (by omega) hgv
  have hl := lv_entry ([.ref b]) (n := 4) (Nat.le_of_ble_eq_true rfl)
  rw [lg_entry_eq]
  generalize (lg_sl ([.ref b]) ++ List.replicate (4 - (lg_sl ([.ref b])).length) Slot.unset).toArray = ls at hl ⊢
  have hl : lv_has ls 4 [(0, .ref b)] := hl
  have hlen : (ysc xs L).length = L := by simp [ysc]
  have hsc : ∀ j : Nat, j < L → (ysc xs L)[j]? = some (.inl (yv xs j, yv xs j)) := fun j hj => by
    unfold ysc
    rw [List.getElem?_map, List.getElem?_range hj]
    rfl
  have hE := hEn (ysc xs L) hlen (fun i x h => by
    have hi : i < L := by
      have hi := (List.getElem?_eq_some_iff.mp h).1
      rw [hlen] at hi
      exact hi
    rw [hsc i hi] at h
    cases h
    exact ⟨xs i, rfl, Int.le_refl _, Int.le_refl _⟩)
  have hat : XAt s 4 D vwCl tA (fun q : Nat => s.heap.size ≤ q) [] ex xS0.2.1 xS0.2.2.1 xS0.2.2.2.1 s.heap [] ls [] [(0, .ref b)] [] := ⟨⟨.ref b, [], rfl, Or.inr ⟨b, rfl, Or.inr ⟨rfl, hex⟩⟩, rfl⟩, rfl, ⟨rfl, fun i c h => by simp [xS0] at h⟩, fun k q h => by simp at h, ⟨fun i j p q h => by simp at h, fun k q h => by simp at h⟩, va_S.rf, hl, [], rfl⟩
  exact ylaw (l := l) (e := e) (below := below) C0 hE hsc hlen hL zv0 s.heap [] ls [] [(0, .ref b)] [] hat
