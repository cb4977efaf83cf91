set_option maxRecDepth 100000 in
theorem uX2_tell_10 {G : Nat × Nat × Nat × Option (Nat × (Nat → Int32)) × (Option Value → qW → Prop)} {L : qL} {w : qW} {kc ks : Nat} {rest : List Value} {x : Int32} (h0 : x = 0 → AW (mX2_tell, G) 40 L rest w kc ks) (h1 : x = 1 → AW (mX2_tell, G) 47 L rest w kc ks) (h2 : x = 2 → AW (mX2_tell, G) 57 L rest w kc ks) (h3 : x = 3 → AW (mX2_tell, G) 64 L rest w kc ks) (hd : ¬ x = 0 → ¬ x = 1 → ¬ x = 2 → ¬ x = 3 → AW (mX2_tell, G) 71 L rest w kc ks) : AW (mX2_tell, G) 10 L (.int x :: rest) w kc ks := by
  by_cases e0 : x = 0
  · subst e0; exact a_tsIn (tgt := 40) dX2_tell_10 (by decide) (by decide) rfl rfl (h0 rfl)
  by_cases e1 : x = 1
  · subst e1; exact a_tsIn (tgt := 47) dX2_tell_10 (by decide) (by decide) rfl rfl (h1 rfl)
  by_cases e2 : x = 2
  · subst e2; exact a_tsIn (tgt := 57) dX2_tell_10 (by decide) (by decide) rfl rfl (h2 rfl)
  by_cases e3 : x = 3
  · subst e3; exact a_tsIn (tgt := 64) dX2_tell_10 (by decide) (by decide) rfl rfl (h3 rfl)
  have f0 : ¬ x.toInt = 0 := fun q => e0 (i_eq.mpr q)
  have f1 : ¬ x.toInt = 1 := fun q => e1 (i_eq.mpr q)
  have f2 : ¬ x.toInt = 2 := fun q => e2 (i_eq.mpr q)
  have f3 : ¬ x.toInt = 3 := fun q => e3 (i_eq.mpr q)
  exact a_tsOut (tgt := 71) dX2_tell_10 (by omega) rfl (hd e0 e1 e2 e3)
set_option maxRecDepth 100000 in
theorem uX9_take_42 {G : Nat × Nat × Nat × Option (Nat × (Nat → Int32)) × (Option Value → qW → Prop)} {L : qL} {w : qW} {kc ks : Nat} {rest : List Value} {x : Int32} (h0 : x = 0 → AW (mX9_take, G) 68 L rest w kc ks) (h1 : x = 1 → AW (mX9_take, G) 74 L rest w kc ks) (h2 : x = 2 → AW (mX9_take, G) 80 L rest w kc ks) (hd : ¬ x = 0 → ¬ x = 1 → ¬ x = 2 → AW (mX9_take, G) 86 L rest w kc ks) : AW (mX9_take, G) 42 L (.int x :: rest) w kc ks := by
  by_cases e0 : x = 0
  · subst e0; exact a_tsIn (tgt := 68) dX9_take_42 (by decide) (by decide) rfl rfl (h0 rfl)
  by_cases e1 : x = 1
  · subst e1; exact a_tsIn (tgt := 74) dX9_take_42 (by decide) (by decide) rfl rfl (h1 rfl)
  by_cases e2 : x = 2
  · subst e2; exact a_tsIn (tgt := 80) dX9_take_42 (by decide) (by decide) rfl rfl (h2 rfl)
  have f0 : ¬ x.toInt = 0 := fun q => e0 (i_eq.mpr q)
  have f1 : ¬ x.toInt = 1 := fun q => e1 (i_eq.mpr q)
  have f2 : ¬ x.toInt = 2 := fun q => e2 (i_eq.mpr q)
  exact a_tsOut (tgt := 86) dX9_take_42 (by omega) rfl (hd e0 e1 e2)
set_option maxRecDepth 100000 in
theorem uX10_file_14 {G : Nat × Nat × Nat × Option (Nat × (Nat → Int32)) × (Option Value → qW → Prop)} {L : qL} {w : qW} {kc ks : Nat} {rest : List Value} {x : Int32} (h0 : x = 0 → AW (mX10_file, G) 64 L rest w kc ks) (h1 : x = 1 → AW (mX10_file, G) 76 L rest w kc ks) (h2 : x = 2 → AW (mX10_file, G) 85 L rest w kc ks) (h3 : x = 3 → AW (mX10_file, G) 94 L rest w kc ks) (h4 : x = 4 → AW (mX10_file, G) 103 L rest w kc ks) (h5 : x = 5 → AW (mX10_file, G) 112 L rest w kc ks) (h6 : x = 6 → AW (mX10_file, G) 121 L rest w kc ks) (h7 : x = 7 → AW (mX10_file, G) 130 L rest w kc ks) (h8 : x = 8 → AW (mX10_file, G) 139 L rest w kc ks) (hd : ¬ x = 0 → ¬ x = 1 → ¬ x = 2 → ¬ x = 3 → ¬ x = 4 → ¬ x = 5 → ¬ x = 6 → ¬ x = 7 → ¬ x = 8 → AW (mX10_file, G) 145 L rest w kc ks) : AW (mX10_file, G) 14 L (.int x :: rest) w kc ks := by
  by_cases e0 : x = 0
  · subst e0; exact a_tsIn (tgt := 64) dX10_file_14 (by decide) (by decide) rfl rfl (h0 rfl)
  by_cases e1 : x = 1
  · subst e1; exact a_tsIn (tgt := 76) dX10_file_14 (by decide) (by decide) rfl rfl (h1 rfl)
  by_cases e2 : x = 2
  · subst e2; exact a_tsIn (tgt := 85) dX10_file_14 (by decide) (by decide) rfl rfl (h2 rfl)
  by_cases e3 : x = 3
  · subst e3; exact a_tsIn (tgt := 94) dX10_file_14 (by decide) (by decide) rfl rfl (h3 rfl)
  by_cases e4 : x = 4
  · subst e4; exact a_tsIn (tgt := 103) dX10_file_14 (by decide) (by decide) rfl rfl (h4 rfl)
  by_cases e5 : x = 5
  · subst e5; exact a_tsIn (tgt := 112) dX10_file_14 (by decide) (by decide) rfl rfl (h5 rfl)
  by_cases e6 : x = 6
  · subst e6; exact a_tsIn (tgt := 121) dX10_file_14 (by decide) (by decide) rfl rfl (h6 rfl)
  by_cases e7 : x = 7
  · subst e7; exact a_tsIn (tgt := 130) dX10_file_14 (by decide) (by decide) rfl rfl (h7 rfl)
  by_cases e8 : x = 8
  · subst e8; exact a_tsIn (tgt := 139) dX10_file_14 (by decide) (by decide) rfl rfl (h8 rfl)
  have f0 : ¬ x.toInt = 0 := fun q => e0 (i_eq.mpr q)
  have f1 : ¬ x.toInt = 1 := fun q => e1 (i_eq.mpr q)
  have f2 : ¬ x.toInt = 2 := fun q => e2 (i_eq.mpr q)
  have f3 : ¬ x.toInt = 3 := fun q => e3 (i_eq.mpr q)
  have f4 : ¬ x.toInt = 4 := fun q => e4 (i_eq.mpr q)
  have f5 : ¬ x.toInt = 5 := fun q => e5 (i_eq.mpr q)
  have f6 : ¬ x.toInt = 6 := fun q => e6 (i_eq.mpr q)
  have f7 : ¬ x.toInt = 7 := fun q => e7 (i_eq.mpr q)
  have f8 : ¬ x.toInt = 8 := fun q => e8 (i_eq.mpr q)
  exact a_tsOut (tgt := 145) dX10_file_14 (by omega) rfl (hd e0 e1 e2 e3 e4 e5 e6 e7 e8)
set_option maxRecDepth 100000 in
theorem uX10_count_1 {G : Nat × Nat × Nat × Option (Nat × (Nat → Int32)) × (Option Value → qW → Prop)} {L : qL} {w : qW} {kc ks : Nat} {rest : List Value} {x : Int32} (h0 : x = 0 → AW (mX10_count, G) 52 L rest w kc ks) (h1 : x = 1 → AW (mX10_count, G) 60 L rest w kc ks) (h2 : x = 2 → AW (mX10_count, G) 68 L rest w kc ks) (h3 : x = 3 → AW (mX10_count, G) 73 L rest w kc ks) (h4 : x = 4 → AW (mX10_count, G) 81 L rest w kc ks) (h5 : x = 5 → AW (mX10_count, G) 89 L rest w kc ks) (h6 : x = 6 → AW (mX10_count, G) 97 L rest w kc ks) (h7 : x = 7 → AW (mX10_count, G) 103 L rest w kc ks) (h8 : x = 8 → AW (mX10_count, G) 108 L rest w kc ks) (hd : ¬ x = 0 → ¬ x = 1 → ¬ x = 2 → ¬ x = 3 → ¬ x = 4 → ¬ x = 5 → ¬ x = 6 → ¬ x = 7 → ¬ x = 8 → AW (mX10_count, G) 116 L rest w kc ks) : AW (mX10_count, G) 1 L (.int x :: rest) w kc ks := by
  by_cases e0 : x = 0
  · subst e0; exact a_tsIn (tgt := 52) dX10_count_1 (by decide) (by decide) rfl rfl (h0 rfl)
  by_cases e1 : x = 1
  · subst e1; exact a_tsIn (tgt := 60) dX10_count_1 (by decide) (by decide) rfl rfl (h1 rfl)
  by_cases e2 : x = 2
  · subst e2; exact a_tsIn (tgt := 68) dX10_count_1 (by decide) (by decide) rfl rfl (h2 rfl)
  by_cases e3 : x = 3
  · subst e3; exact a_tsIn (tgt := 73) dX10_count_1 (by decide) (by decide) rfl rfl (h3 rfl)
  by_cases e4 : x = 4
  · subst e4; exact a_tsIn (tgt := 81) dX10_count_1 (by decide) (by decide) rfl rfl (h4 rfl)
  by_cases e5 : x = 5
  · subst e5; exact a_tsIn (tgt := 89) dX10_count_1 (by decide) (by decide) rfl rfl (h5 rfl)
  by_cases e6 : x = 6
  · subst e6; exact a_tsIn (tgt := 97) dX10_count_1 (by decide) (by decide) rfl rfl (h6 rfl)
  by_cases e7 : x = 7
  · subst e7; exact a_tsIn (tgt := 103) dX10_count_1 (by decide) (by decide) rfl rfl (h7 rfl)
  by_cases e8 : x = 8
  · subst e8; exact a_tsIn (tgt := 108) dX10_count_1 (by decide) (by decide) rfl rfl (h8 rfl)
  have f0 : ¬ x.toInt = 0 := fun q => e0 (i_eq.mpr q)
  have f1 : ¬ x.toInt = 1 := fun q => e1 (i_eq.mpr q)
  have f2 : ¬ x.toInt = 2 := fun q => e2 (i_eq.mpr q)
  have f3 : ¬ x.toInt = 3 := fun q => e3 (i_eq.mpr q)
  have f4 : ¬ x.toInt = 4 := fun q => e4 (i_eq.mpr q)
  have f5 : ¬ x.toInt = 5 := fun q => e5 (i_eq.mpr q)
  have f6 : ¬ x.toInt = 6 := fun q => e6 (i_eq.mpr q)
  have f7 : ¬ x.toInt = 7 := fun q => e7 (i_eq.mpr q)
  have f8 : ¬ x.toInt = 8 := fun q => e8 (i_eq.mpr q)
  exact a_tsOut (tgt := 116) dX10_count_1 (by omega) rfl (hd e0 e1 e2 e3 e4 e5 e6 e7 e8)
set_option maxRecDepth 100000 in
theorem uX11_file_13 {G : Nat × Nat × Nat × Option (Nat × (Nat → Int32)) × (Option Value → qW → Prop)} {L : qL} {w : qW} {kc ks : Nat} {rest : List Value} {x : Int32} (h0 : x = 0 → AW (mX11_file, G) 64 L rest w kc ks) (h1 : x = 1 → AW (mX11_file, G) 78 L rest w kc ks) (h2 : x = 2 → AW (mX11_file, G) 92 L rest w kc ks) (h3 : x = 3 → AW (mX11_file, G) 100 L rest w kc ks) (h4 : x = 4 → AW (mX11_file, G) 112 L rest w kc ks) (h5 : x = 5 → AW (mX11_file, G) 118 L rest w kc ks) (h6 : x = 6 → AW (mX11_file, G) 161 L rest w kc ks) (h7 : x = 7 → AW (mX11_file, G) 167 L rest w kc ks) (h8 : x = 8 → AW (mX11_file, G) 173 L rest w kc ks) (hd : ¬ x = 0 → ¬ x = 1 → ¬ x = 2 → ¬ x = 3 → ¬ x = 4 → ¬ x = 5 → ¬ x = 6 → ¬ x = 7 → ¬ x = 8 → AW (mX11_file, G) 226 L rest w kc ks) : AW (mX11_file, G) 13 L (.int x :: rest) w kc ks := by
  by_cases e0 : x = 0
  · subst e0; exact a_tsIn (tgt := 64) dX11_file_13 (by decide) (by decide) rfl rfl (h0 rfl)
  by_cases e1 : x = 1
  · subst e1; exact a_tsIn (tgt := 78) dX11_file_13 (by decide) (by decide) rfl rfl (h1 rfl)
  by_cases e2 : x = 2
  · subst e2; exact a_tsIn (tgt := 92) dX11_file_13 (by decide) (by decide) rfl rfl (h2 rfl)
  by_cases e3 : x = 3
  · subst e3; exact a_tsIn (tgt := 100) dX11_file_13 (by decide) (by decide) rfl rfl (h3 rfl)
  by_cases e4 : x = 4
  · subst e4; exact a_tsIn (tgt := 112) dX11_file_13 (by decide) (by decide) rfl rfl (h4 rfl)
  by_cases e5 : x = 5
  · subst e5; exact a_tsIn (tgt := 118) dX11_file_13 (by decide) (by decide) rfl rfl (h5 rfl)
  by_cases e6 : x = 6
  · subst e6; exact a_tsIn (tgt := 161) dX11_file_13 (by decide) (by decide) rfl rfl (h6 rfl)
  by_cases e7 : x = 7
  · subst e7; exact a_tsIn (tgt := 167) dX11_file_13 (by decide) (by decide) rfl rfl (h7 rfl)
  by_cases e8 : x = 8
  · subst e8; exact a_tsIn (tgt := 173) dX11_file_13 (by decide) (by decide) rfl rfl (h8 rfl)
  have f0 : ¬ x.toInt = 0 := fun q => e0 (i_eq.mpr q)
  have f1 : ¬ x.toInt = 1 := fun q => e1 (i_eq.mpr q)
  have f2 : ¬ x.toInt = 2 := fun q => e2 (i_eq.mpr q)
  have f3 : ¬ x.toInt = 3 := fun q => e3 (i_eq.mpr q)
  have f4 : ¬ x.toInt = 4 := fun q => e4 (i_eq.mpr q)
  have f5 : ¬ x.toInt = 5 := fun q => e5 (i_eq.mpr q)
  have f6 : ¬ x.toInt = 6 := fun q => e6 (i_eq.mpr q)
  have f7 : ¬ x.toInt = 7 := fun q => e7 (i_eq.mpr q)
  have f8 : ¬ x.toInt = 8 := fun q => e8 (i_eq.mpr q)
  exact a_tsOut (tgt := 226) dX11_file_13 (by omega) rfl (hd e0 e1 e2 e3 e4 e5 e6 e7 e8)
set_option maxRecDepth 100000 in
theorem uX11_sealed_24 {G : Nat × Nat × Nat × Option (Nat × (Nat → Int32)) × (Option Value → qW → Prop)} {L : qL} {w : qW} {kc ks : Nat} {rest : List Value} {x : Int32} (h0 : x = 0 → AW (mX11_sealed, G) 68 L rest w kc ks) (h1 : x = 1 → AW (mX11_sealed, G) 75 L rest w kc ks) (h2 : x = 2 → AW (mX11_sealed, G) 82 L rest w kc ks) (h3 : x = 3 → AW (mX11_sealed, G) 84 L rest w kc ks) (h4 : x = 4 → AW (mX11_sealed, G) 91 L rest w kc ks) (h5 : x = 5 → AW (mX11_sealed, G) 98 L rest w kc ks) (h6 : x = 6 → AW (mX11_sealed, G) 105 L rest w kc ks) (hd : ¬ x = 0 → ¬ x = 1 → ¬ x = 2 → ¬ x = 3 → ¬ x = 4 → ¬ x = 5 → ¬ x = 6 → AW (mX11_sealed, G) 119 L rest w kc ks) : AW (mX11_sealed, G) 24 L (.int x :: rest) w kc ks := by
  by_cases e0 : x = 0
  · subst e0; exact a_tsIn (tgt := 68) dX11_sealed_24 (by decide) (by decide) rfl rfl (h0 rfl)
  by_cases e1 : x = 1
  · subst e1; exact a_tsIn (tgt := 75) dX11_sealed_24 (by decide) (by decide) rfl rfl (h1 rfl)
  by_cases e2 : x = 2
  · subst e2; exact a_tsIn (tgt := 82) dX11_sealed_24 (by decide) (by decide) rfl rfl (h2 rfl)
  by_cases e3 : x = 3
  · subst e3; exact a_tsIn (tgt := 84) dX11_sealed_24 (by decide) (by decide) rfl rfl (h3 rfl)
  by_cases e4 : x = 4
  · subst e4; exact a_tsIn (tgt := 91) dX11_sealed_24 (by decide) (by decide) rfl rfl (h4 rfl)
  by_cases e5 : x = 5
  · subst e5; exact a_tsIn (tgt := 98) dX11_sealed_24 (by decide) (by decide) rfl rfl (h5 rfl)
  by_cases e6 : x = 6
  · subst e6; exact a_tsIn (tgt := 105) dX11_sealed_24 (by decide) (by decide) rfl rfl (h6 rfl)
  have f0 : ¬ x.toInt = 0 := fun q => e0 (i_eq.mpr q)
  have f1 : ¬ x.toInt = 1 := fun q => e1 (i_eq.mpr q)
  have f2 : ¬ x.toInt = 2 := fun q => e2 (i_eq.mpr q)
  have f3 : ¬ x.toInt = 3 := fun q => e3 (i_eq.mpr q)
  have f4 : ¬ x.toInt = 4 := fun q => e4 (i_eq.mpr q)
  have f5 : ¬ x.toInt = 5 := fun q => e5 (i_eq.mpr q)
  have f6 : ¬ x.toInt = 6 := fun q => e6 (i_eq.mpr q)
  exact a_tsOut (tgt := 119) dX11_sealed_24 (by omega) rfl (hd e0 e1 e2 e3 e4 e5 e6)
set_option maxRecDepth 100000 in
theorem uX11_note_17 {G : Nat × Nat × Nat × Option (Nat × (Nat → Int32)) × (Option Value → qW → Prop)} {L : qL} {w : qW} {kc ks : Nat} {rest : List Value} {x : Int32} (h0 : x = 0 → AW (mX11_note, G) 64 L rest w kc ks) (h1 : x = 1 → AW (mX11_note, G) 71 L rest w kc ks) (h2 : x = 2 → AW (mX11_note, G) 78 L rest w kc ks) (h3 : x = 3 → AW (mX11_note, G) 85 L rest w kc ks) (h4 : x = 4 → AW (mX11_note, G) 92 L rest w kc ks) (h5 : x = 5 → AW (mX11_note, G) 99 L rest w kc ks) (h6 : x = 6 → AW (mX11_note, G) 106 L rest w kc ks) (h7 : x = 7 → AW (mX11_note, G) 113 L rest w kc ks) (hd : ¬ x = 0 → ¬ x = 1 → ¬ x = 2 → ¬ x = 3 → ¬ x = 4 → ¬ x = 5 → ¬ x = 6 → ¬ x = 7 → AW (mX11_note, G) 120 L rest w kc ks) : AW (mX11_note, G) 17 L (.int x :: rest) w kc ks := by
  by_cases e0 : x = 0
  · subst e0; exact a_tsIn (tgt := 64) dX11_note_17 (by decide) (by decide) rfl rfl (h0 rfl)
  by_cases e1 : x = 1
  · subst e1; exact a_tsIn (tgt := 71) dX11_note_17 (by decide) (by decide) rfl rfl (h1 rfl)
  by_cases e2 : x = 2
  · subst e2; exact a_tsIn (tgt := 78) dX11_note_17 (by decide) (by decide) rfl rfl (h2 rfl)
  by_cases e3 : x = 3
  · subst e3; exact a_tsIn (tgt := 85) dX11_note_17 (by decide) (by decide) rfl rfl (h3 rfl)
  by_cases e4 : x = 4
  · subst e4; exact a_tsIn (tgt := 92) dX11_note_17 (by decide) (by decide) rfl rfl (h4 rfl)
  by_cases e5 : x = 5
  · subst e5; exact a_tsIn (tgt := 99) dX11_note_17 (by decide) (by decide) rfl rfl (h5 rfl)
  by_cases e6 : x = 6
  · subst e6; exact a_tsIn (tgt := 106) dX11_note_17 (by decide) (by decide) rfl rfl (h6 rfl)
  by_cases e7 : x = 7
  · subst e7; exact a_tsIn (tgt := 113) dX11_note_17 (by decide) (by decide) rfl rfl (h7 rfl)
  have f0 : ¬ x.toInt = 0 := fun q => e0 (i_eq.mpr q)
  have f1 : ¬ x.toInt = 1 := fun q => e1 (i_eq.mpr q)
  have f2 : ¬ x.toInt = 2 := fun q => e2 (i_eq.mpr q)
  have f3 : ¬ x.toInt = 3 := fun q => e3 (i_eq.mpr q)
  have f4 : ¬ x.toInt = 4 := fun q => e4 (i_eq.mpr q)
  have f5 : ¬ x.toInt = 5 := fun q => e5 (i_eq.mpr q)
  have f6 : ¬ x.toInt = 6 := fun q => e6 (i_eq.mpr q)
  have f7 : ¬ x.toInt = 7 := fun q => e7 (i_eq.mpr q)
  exact a_tsOut (tgt := 120) dX11_note_17 (by omega) rfl (hd e0 e1 e2 e3 e4 e5 e6 e7)
set_option maxRecDepth 100000 in
theorem uX11_count_41 {G : Nat × Nat × Nat × Option (Nat × (Nat → Int32)) × (Option Value → qW → Prop)} {L : qL} {w : qW} {kc ks : Nat} {rest : List Value} {x : Int32} (h0 : x = 0 → AW (mX11_count, G) 92 L rest w kc ks) (h1 : x = 1 → AW (mX11_count, G) 97 L rest w kc ks) (h2 : x = 2 → AW (mX11_count, G) 102 L rest w kc ks) (h3 : x = 3 → AW (mX11_count, G) 107 L rest w kc ks) (h4 : x = 4 → AW (mX11_count, G) 112 L rest w kc ks) (h5 : x = 5 → AW (mX11_count, G) 117 L rest w kc ks) (h6 : x = 6 → AW (mX11_count, G) 122 L rest w kc ks) (h7 : x = 7 → AW (mX11_count, G) 124 L rest w kc ks) (h8 : x = 8 → AW (mX11_count, G) 129 L rest w kc ks) (hd : ¬ x = 0 → ¬ x = 1 → ¬ x = 2 → ¬ x = 3 → ¬ x = 4 → ¬ x = 5 → ¬ x = 6 → ¬ x = 7 → ¬ x = 8 → AW (mX11_count, G) 147 L rest w kc ks) : AW (mX11_count, G) 41 L (.int x :: rest) w kc ks := by
  by_cases e0 : x = 0
  · subst e0; exact a_tsIn (tgt := 92) dX11_count_41 (by decide) (by decide) rfl rfl (h0 rfl)
  by_cases e1 : x = 1
  · subst e1; exact a_tsIn (tgt := 97) dX11_count_41 (by decide) (by decide) rfl rfl (h1 rfl)
  by_cases e2 : x = 2
  · subst e2; exact a_tsIn (tgt := 102) dX11_count_41 (by decide) (by decide) rfl rfl (h2 rfl)
  by_cases e3 : x = 3
  · subst e3; exact a_tsIn (tgt := 107) dX11_count_41 (by decide) (by decide) rfl rfl (h3 rfl)
  by_cases e4 : x = 4
  · subst e4; exact a_tsIn (tgt := 112) dX11_count_41 (by decide) (by decide) rfl rfl (h4 rfl)
  by_cases e5 : x = 5
  · subst e5; exact a_tsIn (tgt := 117) dX11_count_41 (by decide) (by decide) rfl rfl (h5 rfl)
  by_cases e6 : x = 6
  · subst e6; exact a_tsIn (tgt := 122) dX11_count_41 (by decide) (by decide) rfl rfl (h6 rfl)
  by_cases e7 : x = 7
  · subst e7; exact a_tsIn (tgt := 124) dX11_count_41 (by decide) (by decide) rfl rfl (h7 rfl)
  by_cases e8 : x = 8
  · subst e8; exact a_tsIn (tgt := 129) dX11_count_41 (by decide) (by decide) rfl rfl (h8 rfl)
  have f0 : ¬ x.toInt = 0 := fun q => e0 (i_eq.mpr q)
  have f1 : ¬ x.toInt = 1 := fun q => e1 (i_eq.mpr q)
  have f2 : ¬ x.toInt = 2 := fun q => e2 (i_eq.mpr q)
  have f3 : ¬ x.toInt = 3 := fun q => e3 (i_eq.mpr q)
  have f4 : ¬ x.toInt = 4 := fun q => e4 (i_eq.mpr q)
  have f5 : ¬ x.toInt = 5 := fun q => e5 (i_eq.mpr q)
  have f6 : ¬ x.toInt = 6 := fun q => e6 (i_eq.mpr q)
  have f7 : ¬ x.toInt = 7 := fun q => e7 (i_eq.mpr q)
  have f8 : ¬ x.toInt = 8 := fun q => e8 (i_eq.mpr q)
  exact a_tsOut (tgt := 147) dX11_count_41 (by omega) rfl (hd e0 e1 e2 e3 e4 e5 e6 e7 e8)
set_option maxRecDepth 100000 in
theorem uL_law_33 {G : Nat × Nat × Nat × Option (Nat × (Nat → Int32)) × (Option Value → qW → Prop)} {L : qL} {w : qW} {kc ks : Nat} {rest : List Value} {x : Int32} (h0 : x = 0 → AW (mL_law, G) 160 L rest w kc ks) (h1 : x = 1 → AW (mL_law, G) 223 L rest w kc ks) (h2 : x = 2 → AW (mL_law, G) 330 L rest w kc ks) (h3 : x = 3 → AW (mL_law, G) 384 L rest w kc ks) (h4 : x = 4 → AW (mL_law, G) 443 L rest w kc ks) (h5 : x = 5 → AW (mL_law, G) 502 L rest w kc ks) (h6 : x = 6 → AW (mL_law, G) 525 L rest w kc ks) (h7 : x = 7 → AW (mL_law, G) 548 L rest w kc ks) (h8 : x = 8 → AW (mL_law, G) 561 L rest w kc ks) (h9 : x = 9 → AW (mL_law, G) 574 L rest w kc ks) (h10 : x = 10 → AW (mL_law, G) 597 L rest w kc ks) (h11 : x = 11 → AW (mL_law, G) 610 L rest w kc ks) (h12 : x = 12 → AW (mL_law, G) 653 L rest w kc ks) (h13 : x = 13 → AW (mL_law, G) 696 L rest w kc ks) (h14 : x = 14 → AW (mL_law, G) 729 L rest w kc ks) (h15 : x = 15 → AW (mL_law, G) 752 L rest w kc ks) (h16 : x = 16 → AW (mL_law, G) 785 L rest w kc ks) (h17 : x = 17 → AW (mL_law, G) 828 L rest w kc ks) (h18 : x = 18 → AW (mL_law, G) 861 L rest w kc ks) (h19 : x = 19 → AW (mL_law, G) 885 L rest w kc ks) (h20 : x = 20 → AW (mL_law, G) 938 L rest w kc ks) (h21 : x = 21 → AW (mL_law, G) 971 L rest w kc ks) (h22 : x = 22 → AW (mL_law, G) 1004 L rest w kc ks) (h23 : x = 23 → AW (mL_law, G) 1017 L rest w kc ks) (h24 : x = 24 → AW (mL_law, G) 1030 L rest w kc ks) (h25 : x = 25 → AW (mL_law, G) 1063 L rest w kc ks) (h26 : x = 26 → AW (mL_law, G) 1086 L rest w kc ks) (h27 : x = 27 → AW (mL_law, G) 1109 L rest w kc ks) (hd : ¬ x = 0 → ¬ x = 1 → ¬ x = 2 → ¬ x = 3 → ¬ x = 4 → ¬ x = 5 → ¬ x = 6 → ¬ x = 7 → ¬ x = 8 → ¬ x = 9 → ¬ x = 10 → ¬ x = 11 → ¬ x = 12 → ¬ x = 13 → ¬ x = 14 → ¬ x = 15 → ¬ x = 16 → ¬ x = 17 → ¬ x = 18 → ¬ x = 19 → ¬ x = 20 → ¬ x = 21 → ¬ x = 22 → ¬ x = 23 → ¬ x = 24 → ¬ x = 25 → ¬ x = 26 → ¬ x = 27 → AW (mL_law, G) 1142 L rest w kc ks) : AW (mL_law, G) 33 L (.int x :: rest) w kc ks := by
  by_cases e0 : x = 0
  · subst e0; exact a_tsIn (tgt := 160) dL_law_33 (by decide) (by decide) rfl rfl (h0 rfl)
  by_cases e1 : x = 1
  · subst e1; exact a_tsIn (tgt := 223) dL_law_33 (by decide) (by decide) rfl rfl (h1 rfl)
  by_cases e2 : x = 2
  · subst e2; exact a_tsIn (tgt := 330) dL_law_33 (by decide) (by decide) rfl rfl (h2 rfl)
  by_cases e3 : x = 3
  · subst e3; exact a_tsIn (tgt := 384) dL_law_33 (by decide) (by decide) rfl rfl (h3 rfl)
  by_cases e4 : x = 4
  · subst e4; exact a_tsIn (tgt := 443) dL_law_33 (by decide) (by decide) rfl rfl (h4 rfl)
  by_cases e5 : x = 5
  · subst e5; exact a_tsIn (tgt := 502) dL_law_33 (by decide) (by decide) rfl rfl (h5 rfl)
  by_cases e6 : x = 6
  · subst e6; exact a_tsIn (tgt := 525) dL_law_33 (by decide) (by decide) rfl rfl (h6 rfl)
  by_cases e7 : x = 7
  · subst e7; exact a_tsIn (tgt := 548) dL_law_33 (by decide) (by decide) rfl rfl (h7 rfl)
  by_cases e8 : x = 8
  · subst e8; exact a_tsIn (tgt := 561) dL_law_33 (by decide) (by decide) rfl rfl (h8 rfl)
  by_cases e9 : x = 9
  · subst e9; exact a_tsIn (tgt := 574) dL_law_33 (by decide) (by decide) rfl rfl (h9 rfl)
  by_cases e10 : x = 10
  · subst e10; exact a_tsIn (tgt := 597) dL_law_33 (by decide) (by decide) rfl rfl (h10 rfl)
  by_cases e11 : x = 11
  · subst e11; exact a_tsIn (tgt := 610) dL_law_33 (by decide) (by decide) rfl rfl (h11 rfl)
  by_cases e12 : x = 12
  · subst e12; exact a_tsIn (tgt := 653) dL_law_33 (by decide) (by decide) rfl rfl (h12 rfl)
  by_cases e13 : x = 13
  · subst e13; exact a_tsIn (tgt := 696) dL_law_33 (by decide) (by decide) rfl rfl (h13 rfl)
  by_cases e14 : x = 14
  · subst e14; exact a_tsIn (tgt := 729) dL_law_33 (by decide) (by decide) rfl rfl (h14 rfl)
  by_cases e15 : x = 15
  · subst e15; exact a_tsIn (tgt := 752) dL_law_33 (by decide) (by decide) rfl rfl (h15 rfl)
  by_cases e16 : x = 16
  · subst e16; exact a_tsIn (tgt := 785) dL_law_33 (by decide) (by decide) rfl rfl (h16 rfl)
  by_cases e17 : x = 17
  · subst e17; exact a_tsIn (tgt := 828) dL_law_33 (by decide) (by decide) rfl rfl (h17 rfl)
  by_cases e18 : x = 18
  · subst e18; exact a_tsIn (tgt := 861) dL_law_33 (by decide) (by decide) rfl rfl (h18 rfl)
  by_cases e19 : x = 19
  · subst e19; exact a_tsIn (tgt := 885) dL_law_33 (by decide) (by decide) rfl rfl (h19 rfl)
  by_cases e20 : x = 20
  · subst e20; exact a_tsIn (tgt := 938) dL_law_33 (by decide) (by decide) rfl rfl (h20 rfl)
  by_cases e21 : x = 21
  · subst e21; exact a_tsIn (tgt := 971) dL_law_33 (by decide) (by decide) rfl rfl (h21 rfl)
  by_cases e22 : x = 22
  · subst e22; exact a_tsIn (tgt := 1004) dL_law_33 (by decide) (by decide) rfl rfl (h22 rfl)
  by_cases e23 : x = 23
  · subst e23; exact a_tsIn (tgt := 1017) dL_law_33 (by decide) (by decide) rfl rfl (h23 rfl)
  by_cases e24 : x = 24
  · subst e24; exact a_tsIn (tgt := 1030) dL_law_33 (by decide) (by decide) rfl rfl (h24 rfl)
  by_cases e25 : x = 25
  · subst e25; exact a_tsIn (tgt := 1063) dL_law_33 (by decide) (by decide) rfl rfl (h25 rfl)
  by_cases e26 : x = 26
  · subst e26; exact a_tsIn (tgt := 1086) dL_law_33 (by decide) (by decide) rfl rfl (h26 rfl)
  by_cases e27 : x = 27
  · subst e27; exact a_tsIn (tgt := 1109) dL_law_33 (by decide) (by decide) rfl rfl (h27 rfl)
  have f0 : ¬ x.toInt = 0 := fun q => e0 (i_eq.mpr q)
  have f1 : ¬ x.toInt = 1 := fun q => e1 (i_eq.mpr q)
  have f2 : ¬ x.toInt = 2 := fun q => e2 (i_eq.mpr q)
  have f3 : ¬ x.toInt = 3 := fun q => e3 (i_eq.mpr q)
  have f4 : ¬ x.toInt = 4 := fun q => e4 (i_eq.mpr q)
  have f5 : ¬ x.toInt = 5 := fun q => e5 (i_eq.mpr q)
  have f6 : ¬ x.toInt = 6 := fun q => e6 (i_eq.mpr q)
  have f7 : ¬ x.toInt = 7 := fun q => e7 (i_eq.mpr q)
  have f8 : ¬ x.toInt = 8 := fun q => e8 (i_eq.mpr q)
  have f9 : ¬ x.toInt = 9 := fun q => e9 (i_eq.mpr q)
  have f10 : ¬ x.toInt = 10 := fun q => e10 (i_eq.mpr q)
  have f11 : ¬ x.toInt = 11 := fun q => e11 (i_eq.mpr q)
  have f12 : ¬ x.toInt = 12 := fun q => e12 (i_eq.mpr q)
  have f13 : ¬ x.toInt = 13 := fun q => e13 (i_eq.mpr q)
  have f14 : ¬ x.toInt = 14 := fun q => e14 (i_eq.mpr q)
  have f15 : ¬ x.toInt = 15 := fun q => e15 (i_eq.mpr q)
  have f16 : ¬ x.toInt = 16 := fun q => e16 (i_eq.mpr q)
  have f17 : ¬ x.toInt = 17 := fun q => e17 (i_eq.mpr q)
  have f18 : ¬ x.toInt = 18 := fun q => e18 (i_eq.mpr q)
  have f19 : ¬ x.toInt = 19 := fun q => e19 (i_eq.mpr q)
  have f20 : ¬ x.toInt = 20 := fun q => e20 (i_eq.mpr q)
  have f21 : ¬ x.toInt = 21 := fun q => e21 (i_eq.mpr q)
  have f22 : ¬ x.toInt = 22 := fun q => e22 (i_eq.mpr q)
  have f23 : ¬ x.toInt = 23 := fun q => e23 (i_eq.mpr q)
  have f24 : ¬ x.toInt = 24 := fun q => e24 (i_eq.mpr q)
  have f25 : ¬ x.toInt = 25 := fun q => e25 (i_eq.mpr q)
  have f26 : ¬ x.toInt = 26 := fun q => e26 (i_eq.mpr q)
  have f27 : ¬ x.toInt = 27 := fun q => e27 (i_eq.mpr q)
  exact a_tsOut (tgt := 1142) dL_law_33 (by omega) rfl (hd e0 e1 e2 e3 e4 e5 e6 e7 e8 e9 e10 e11 e12 e13 e14 e15 e16 e17 e18 e19 e20 e21 e22 e23 e24 e25 e26 e27)
