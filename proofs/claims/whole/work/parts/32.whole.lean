theorem law_pure (L : Nat) (xs : Nat → Int32) (hL : L ≤ 2560) : ∃ z, f_L_law L xs hp0 = some z := by
  rw [w_law]
  exact l_loop hL 514 0 (den wc412) (by omega) (by omega) (by omega) i_good
theorem whole_start {p : Program} {e : Env} {s : State} {m : MethodId} {below : List Frame} {meth : Method} {c : Code} (l : Launch) (hflags : l.flags = flags0) {b L : Nat} {xs : Nat → Int32} (hL : L ≤ 2560) (C0 : lw_At p s m meth c b L xs) : W p l e room_1 s m #[Value.ref b] below meth c s.heap [] 0 0 (lw_Z below #[Value.ref b] s) (entryFrame m ([Value.ref b] : List Value).toArray 7) := by
  obtain ⟨E, hE, CC⟩ := x_start (l := l) hflags C0
  obtain ⟨z, hz⟩ := law_pure L xs hL
  obtain ⟨hx, hb, hr, hml, hown, hts, hX, hbl, hlocks, hgv⟩ := C0
  have hl := lv_entry ([.ref b]) (n := 7) (Nat.le_of_ble_eq_true rfl)
  rw [lg_entry_eq]
  generalize (lg_sl ([.ref b]) ++ List.replicate (7 - (lg_sl ([.ref b])).length) Slot.unset).toArray = ls at hl ⊢
  have hl : lv_has ls 7 [(0, .ref b)] := hl
  have hR : x_Rep E hp0 s.heap := ⟨fun a kd n h => absurd (show (none : Option (Nat × Nat)) = some (kd, n) from h) (by simp), by rw [hE]; exact Nat.le_refl _, Nat.zero_le _, fun _ => by rw [hE]; rfl⟩
  exact s_L_law hE CC hX hbl (by show ¬ E.1 ≤ b; omega) hp0 ls hR hl hz
