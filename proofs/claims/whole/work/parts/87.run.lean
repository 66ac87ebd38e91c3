/-! run: both -/
section KyRun
variable {N N' ph n nx : Nat} {sg s : kx_G2}
/-- what run leaves alone: the state saved, the line -/
def ky_rk (a j : Nat) : Prop := (49 ≤ a ∧ a < 73) ∨ a = 301 ∨ a = 296 ∨ a = 297 ∨ a = 305 ∨ (a = 0 ∧ j = 3) ∨ (a = 298 ∧ (j = 5 ∨ j = 7 ∨ j = 13))
theorem ky_INV_run (V : ky_INV N ph sg) (hN : N ≤ N') (G' : ky_G N' (s 299)) (R' : ky_R 0 s (s 299)) (H : ∃ c nx, ky_HI N' c nx s) (RE : ky_RE s) (T : ∃ tl, ky_TX ph tl s) (F : ∀ a j, ky_rk a j → s a j = sg a j) : ky_INV N' ph s := by
  obtain ⟨-, v3, -, -, -, ⟨ll, v7⟩, v8⟩ := V
  refine ⟨⟨G', R'⟩, ky_SV_fr ?_ ?_ ?_ ?_ (v3.le hN), H, RE, T, ⟨ll, ky_LN_fr ?_ ?_ ?_ ?_ ?_ v7⟩, ?_⟩
  · exact fun a h1 h2 j => F _ _ (by unfold ky_rk; omega)
  · exact F _ _ (by unfold ky_rk; omega)
  · exact F _ _ (by unfold ky_rk; omega)
  · exact fun j => F _ _ (by unfold ky_rk; omega)
  · exact F _ _ (by unfold ky_rk; omega)
  · exact F _ _ (by unfold ky_rk; omega)
  · exact F _ _ (by unfold ky_rk; omega)
  · exact fun j => F _ _ (by unfold ky_rk; omega)
  · exact fun j => F _ _ (by unfold ky_rk; omega)
  · exact (F _ _ (by unfold ky_rk; omega)).trans v8
theorem ky_TX_nil (h1 : s 280 1 = 0) (h2 : s 280 3 = 0) (h3 : s 298 11 = 0) (hp : ph ≤ 2) : ky_TX ph 0 s := ⟨⟨h1, h2, h3⟩, ⟨by omega, Nat.zero_le _, hp⟩, fun i hi => by omega⟩
theorem kx_c_132_ab {ph : Nat} {sc : Nat × (Nat → Int32)} {sg : kx_G2} {lm : Nat → Nat → Int64} : kx_call 132 [.ref 299, .int 0, .ref 302, .int 0] (kx_pm ph sc sg lm) = some (none, kx_pm ph sc (ky_cpy sg 299 0 302 0 167) lm) :=
  kx_c_132 (p := 0) (q := 0) (nA := 167) (nB := 167) (fun _ => kx_s_299) (fun _ => kx_s_302) (fun _ _ => kx_g_299) (fun _ _ _ => kx_p_302) (by decide) (by decide) (by decide) (by decide) (by decide)
theorem kx_c_132_ba {ph : Nat} {sc : Nat × (Nat → Int32)} {sg : kx_G2} {lm : Nat → Nat → Int64} : kx_call 132 [.ref 302, .int 0, .ref 299, .int 0] (kx_pm ph sc sg lm) = some (none, kx_pm ph sc (ky_cpy sg 302 0 299 0 167) lm) :=
  kx_c_132 (p := 0) (q := 0) (nA := 167) (nB := 167) (fun _ => kx_s_302) (fun _ => kx_s_299) (fun _ _ => kx_g_302) (fun _ _ _ => kx_p_299) (by decide) (by decide) (by decide) (by decide) (by decide)
end KyRun
