theorem pz_idxM (l : Launch) (D : va_G) (kA : Nat → ClassId) (en : pz_Env) (a0 : Nat) : pz_IdxM l D kA en a0 := sorry
theorem pz_law (en : pz_Env) (hL : en.2.1 ≤ 3072) : pz_WP 11 en (pz_Cd en (11 - 1)) 8 code 9 (some .boolean) [] false (fun o _ => o = .inl (some (.int 1))) 0 (pz_entry [.ref en.1] 9) [] (fun _ => none) 601024 7293034 := sorry
