/-! from the law's entry to its end -/
section KyFin
theorem kz_g_0 {a j : Nat} (h : a ≠ 0 ∨ j < 9) : kz_g a j = 0 := by
  unfold kz_g
  rw [kx_up_ne (by omega), kx_up_ne (by omega)]
  rfl
theorem kz_row : kz_g 299 = fun _ => 0 := funext fun j => kz_g_0 (Or.inl (by decide))
theorem kz_G : ky_G 0 (kz_g 299) := by
  rw [kz_row]
  refine ⟨0, 0, 0, 0, ⟨⟨rfl, by decide⟩, ⟨rfl, by decide⟩, ⟨rfl, by decide⟩, ⟨rfl, by decide⟩, fun t h => by omega, fun k h => by omega, fun w h => by omega⟩, ⟨fun _ _ _ _ _ => rfl, fun _ _ _ _ _ => rfl⟩, ⟨fun _ => Nat.zero_le _, fun _ => Nat.zero_le _⟩, Nat.le_refl _⟩
theorem kz_R : ky_R 0 kz_g (kz_g 299) := by
  have z : ∀ a j, 1 ≤ a → kz_g a j = 0 := fun a j h => kz_g_0 (Or.inl (by omega))
  have e0 : ky_n (kz_g 299) 2 = 0 := by rw [kz_row]; rfl
  unfold ky_R
  rw [e0, ky_at0, kz_row]
  refine ⟨⟨z _ _ (by decide), z _ _ (by decide), z _ _ (by decide), z _ _ (by decide), z _ _ (by decide), z _ _ (by decide), z _ _ (by decide), z _ _ (by decide), z _ _ (by decide), z _ _ (by decide), z _ _ (by decide)⟩, fun t h => ⟨z _ _ (by omega), z _ _ (by omega), z _ _ (by omega), z _ _ (by omega)⟩, fun k h => ⟨z _ _ (by omega), z _ _ (by omega), z _ _ (by omega), z _ _ (by omega), z _ _ (by omega), z _ _ (by omega), z _ _ (by omega), z _ _ (by omega), z _ _ (by omega), fun _ => z _ _ (by omega)⟩, fun w h => ⟨z _ _ (by decide), z _ _ (by decide)⟩, fun k h => by omega⟩
theorem kz_INV : ky_INV 0 0 kz_g := by
  have z : ∀ a j, 1 ≤ a → kz_g a j = 0 := fun a j h => kz_g_0 (Or.inl (by omega))
  refine ⟨⟨kz_G, kz_R⟩, ⟨?_, Or.inl (kz_g_0 (Or.inr (by decide)))⟩, ⟨0, 0, ⟨z _ _ (by decide), by decide⟩, ⟨z _ _ (by decide), by decide⟩, z _ _ (by decide), fun i h => by omega⟩, Or.inl ⟨z _ _ (by decide), rfl, rfl⟩, ⟨0, ky_TX_nil (z _ _ (by decide)) (z _ _ (by decide)) (z _ _ (by decide)) (by decide)⟩, ⟨0, ⟨z _ _ (by decide), z _ _ (by decide), z _ _ (by decide)⟩, by decide, fun i h => by omega⟩, z _ _ (by decide)⟩
  rw [kz_g_0 (Or.inr (by decide)), z _ _ (by decide)]
theorem kz_law {L : Nat} {xs : Nat → Int32} (hL : L ≤ 2048) : ∃ n M', kx_run n 0 (kx_en 0 [.retAddr 1] (kx_M0 L xs)) = some (some (.int 1), M') ∧ kx_nx M' ≤ 600000 ∧ kx_sl M' ≤ 7302250 := by
  obtain ⟨ph, sg, lm, e, hp⟩ := ky_loop (L := L) (X := xs) hL (L / 4) 0 0 0 kz_g (fun _ _ => 0) none none none none (by omega) (by omega) rfl (by omega) kz_INV
  have e' : kx_D 0 18 [some (.retAddr 1), some (.ref 0), some (.ref 298), some (.int 0), none, none, none, none] [] (kx_pm 0 (L, xs) kz_g (fun _ _ => 0)) = some (some (.int 1), kx_pm ph (L, xs) sg lm) := e
  have c := (kz_start (L := L) (xs := xs)).trans e'
  obtain ⟨n, h⟩ := kx_D_run c
  refine ⟨n, _, h, ?_, ?_⟩
  · show 311 + ph ≤ 600000
    omega
  · show kx_sl0 ph ≤ 7302250
    unfold kx_sl0
    (repeat' split) <;> decide
end KyFin
theorem whole_start {p : Program} {e : Env} {s : State} {m : MethodId} {below : List Frame} {meth : Method} {c : Code} (l : Launch) (hflags : l.flags = flags0) {b L : Nat} {xs : Nat → Int32} (hL : L ≤ 2048) (C0 : lw_At p s m meth c b L xs) : W p l e room_1 s m #[Value.ref b] below meth c s.heap [] 0 0 (lw_Z below #[Value.ref b] s) (entryFrame m ([Value.ref b] : List Value).toArray 8) := by
  obtain ⟨n, M', h, h1, h2⟩ := kz_law (xs := xs) hL
  exact kx_start l C0 h ⟨h1, h2⟩
