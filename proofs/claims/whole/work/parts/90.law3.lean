/-! THE LAW'S OWN WALK -/
theorem lvF_app {g : GG} {r : List Nat} : ∀ (l t t' : List Value) (i : Nat), (∀ q ∈ lvF g r (i + l.length) t', q ∈ lvF g r (i + l.length) t) → ∀ q ∈ lvF g r i (l ++ t'), q ∈ lvF g r i (l ++ t) := by
  intro l
  induction l with
  | nil => intro t t' i h q hq; exact h q hq
  | cons v l ih =>
    intro t t' i h q hq
    have e : i + (v :: l).length = i + 1 + l.length := by simp only [List.length_cons]; omega
    rw [e] at h
    have h' := ih t t' (i + 1) h
    cases v with
    | retAddr a => exact h' q hq
    | _ =>
      rcases List.mem_cons.mp hq with rfl | hq
      · exact List.mem_cons_self
      · exact List.mem_cons_of_mem _ (h' q hq)
theorem w_fg {g : GG} {μ : MD} {d c n pc : Nat} {st : List Value} {m : MM} {Q : Out → Prop} {v0 v1 v2 v3 v4 x y z : Value} (kk : Wp g μ d c n pc [v0, v1, v2, v3, v4, .retAddr 0, .retAddr 0, .retAddr 0] st m Q) : Wp g μ d c n pc [v0, v1, v2, v3, v4, x, y, z] st m Q :=
  w_loc (ls' := [v0, v1, v2, v3, v4] ++ [.retAddr 0, .retAddr 0, .retAddr 0]) (fun g r => lvF_app [v0, v1, v2, v3, v4] [x, y, z] [.retAddr 0, .retAddr 0, .retAddr 0] 0 (fun q hq => absurd hq List.not_mem_nil)) (fun k h v hv => by
    rcases List.mem_append.mp hv with h1 | h1
    · exact h v (List.mem_append_left [x, y, z] h1)
    · have e : v = .retAddr 0 := by
        rcases List.mem_cons.mp h1 with h1 | h1
        · exact h1
        rcases List.mem_cons.mp h1 with h1 | h1
        · exact h1
        exact List.mem_singleton.mp h1
      rw [e]; trivial) kk
theorem S_X12_thrown {g : GG} {m : MM} {Q : Out → Prop} (hF : Fx m) (k : Q (.inl (some (.int (ldI m 167 0))), m)) : Cl g 0 0 0 mX12_thrown [.ref 167] m Q := by
  refine Cl.of rfl (by decide) (Nat.le_of_ble_eq_true rfl) ?_
  show Wp g mX12_thrown 0 0 0 0 [.ref 167] [] m Q
  refine r_aload_n dX12_thrown_0 rfl ?_
  refine r_getI dX12_thrown_1 fgX12_79 rfl (by exact k_167 hF) ?_
  refine r_ireturn dX12_thrown_4 rfl rfl ?_
  exact k
theorem sv {L i : Nat} (k : Nat) (hk : k < 6) (hi : i + 6 ≤ L) (hL : L ≤ 3072) : vp_in (nI i + nI k) L := by
  rw [nI_ad2 (by omega)]
  exact vin (by omega) (by omega)
theorem mtL_126 : MT RL 126 4 mL_hull := ⟨(tb_2 225 rfl rfl), (tb_2 226 rfl rfl), (tb_1 0 rfl rfl), ⟨_, rfl, (tb_2 227 rfl rfl)⟩, ⟨by decide, by decide⟩, by decide +kernel, by decide⟩
theorem mtL_136 : MT RL 136 6 mL_station := ⟨(tb_3 74 rfl rfl), (tb_3 75 rfl rfl), (tb_1 0 rfl rfl), ⟨_, rfl, (tb_3 76 rfl rfl)⟩, ⟨by decide, by decide⟩, by decide +kernel, by decide⟩
theorem mtL_140 : MT RL 140 5 mL_model := ⟨(tb_3 122 rfl rfl), (tb_3 123 rfl rfl), (tb_1 0 rfl rfl), ⟨_, rfl, (tb_3 124 rfl rfl)⟩, ⟨by decide, by decide⟩, by decide +kernel, by decide⟩
theorem mtL_144 : MT RL 144 4 mL_tank := ⟨(tb_3 149 rfl rfl), (tb_3 150 rfl rfl), (tb_1 0 rfl rfl), ⟨_, rfl, (tb_3 151 rfl rfl)⟩, ⟨by decide, by decide⟩, by decide +kernel, by decide⟩
theorem mtL_152 : MT RL 152 4 mL_law := ⟨(tb_3 165 rfl rfl), (tb_3 166 rfl rfl), (tb_1 0 rfl rfl), ⟨_, rfl, (tb_3 167 rfl rfl)⟩, ⟨by decide, by decide⟩, by decide +kernel, by decide⟩
theorem mtL_160 : MT RL 160 6 mL_set := ⟨(tb_4 101 rfl rfl), (tb_4 102 rfl rfl), (tb_1 0 rfl rfl), ⟨_, rfl, (tb_4 103 rfl rfl)⟩, ⟨by decide, by decide⟩, by decide +kernel, by decide⟩
theorem mtL_163 : MT RL 163 4 mL_trim := ⟨(tb_4 129 rfl rfl), (tb_4 130 rfl rfl), (tb_1 0 rfl rfl), ⟨_, rfl, (tb_4 131 rfl rfl)⟩, ⟨by decide, by decide⟩, by decide +kernel, by decide⟩
theorem mtL_167 : MT RL 167 3 mL_name := ⟨(tb_4 137 rfl rfl), (tb_4 138 rfl rfl), (tb_1 0 rfl rfl), ⟨_, rfl, (tb_4 139 rfl rfl)⟩, ⟨by decide, by decide⟩, by decide +kernel, by decide⟩
theorem mtL_171 : MT RL 171 4 mL_pull := ⟨(tb_4 188 rfl rfl), (tb_4 189 rfl rfl), (tb_1 0 rfl rfl), ⟨_, rfl, (tb_4 190 rfl rfl)⟩, ⟨by decide, by decide⟩, by decide +kernel, by decide⟩
theorem mtL_174 : MT RL 174 5 mL_need := ⟨(tb_5 15 rfl rfl), (tb_5 16 rfl rfl), (tb_1 0 rfl rfl), ⟨_, rfl, (tb_5 17 rfl rfl)⟩, ⟨by decide, by decide⟩, by decide +kernel, by decide⟩
theorem mtL_177 : MT RL 177 6 mL_error := ⟨(tb_5 40 rfl rfl), (tb_5 41 rfl rfl), (tb_1 0 rfl rfl), ⟨_, rfl, (tb_5 42 rfl rfl)⟩, ⟨by decide, by decide⟩, by decide +kernel, by decide⟩
theorem mtL_180 : MT RL 180 6 mL_size := ⟨(tb_5 64 rfl rfl), (tb_5 65 rfl rfl), (tb_1 0 rfl rfl), ⟨_, rfl, (tb_5 66 rfl rfl)⟩, ⟨by decide, by decide⟩, by decide +kernel, by decide⟩
theorem mtL_183 : MT RL 183 3 mL_sides := ⟨(tb_5 76 rfl rfl), (tb_5 77 rfl rfl), (tb_1 0 rfl rfl), ⟨_, rfl, (tb_5 78 rfl rfl)⟩, ⟨by decide, by decide⟩, by decide +kernel, by decide⟩
theorem mtL_186 : MT RL 186 4 mL_widest := ⟨(tb_5 92 rfl rfl), (tb_5 93 rfl rfl), (tb_1 0 rfl rfl), ⟨_, rfl, (tb_5 94 rfl rfl)⟩, ⟨by decide, by decide⟩, by decide +kernel, by decide⟩
theorem mtL_189 : MT RL 189 3 mL_run := ⟨(tb_5 103 rfl rfl), (tb_5 104 rfl rfl), (tb_1 0 rfl rfl), ⟨_, rfl, (tb_5 105 rfl rfl)⟩, ⟨by decide, by decide⟩, by decide +kernel, by decide⟩
theorem mtL_192 : MT RL 192 4 mL_tow := ⟨(tb_5 115 rfl rfl), (tb_5 116 rfl rfl), (tb_1 0 rfl rfl), ⟨_, rfl, (tb_5 117 rfl rfl)⟩, ⟨by decide, by decide⟩, by decide +kernel, by decide⟩
theorem mtL_195 : MT RL 195 4 mL_ran := ⟨(tb_5 132 rfl rfl), (tb_5 133 rfl rfl), (tb_1 0 rfl rfl), ⟨_, rfl, (tb_5 134 rfl rfl)⟩, ⟨by decide, by decide⟩, by decide +kernel, by decide⟩
theorem mtL_202 : MT RL 202 2 mL_wire := ⟨(tb_5 143 rfl rfl), (tb_5 144 rfl rfl), (tb_1 0 rfl rfl), ⟨_, rfl, (tb_5 145 rfl rfl)⟩, ⟨by decide, by decide⟩, by decide +kernel, by decide⟩
theorem mtL_206 : MT RL 206 3 mL_fits := ⟨(tb_5 160 rfl rfl), (tb_5 161 rfl rfl), (tb_1 0 rfl rfl), ⟨_, rfl, (tb_5 162 rfl rfl)⟩, ⟨by decide, by decide⟩, by decide +kernel, by decide⟩
theorem mtL_209 : MT RL 209 3 mL_telling := ⟨(tb_5 184 rfl rfl), (tb_5 185 rfl rfl), (tb_1 0 rfl rfl), ⟨_, rfl, (tb_5 186 rfl rfl)⟩, ⟨by decide, by decide⟩, by decide +kernel, by decide⟩
theorem mtL_212 : MT RL 212 4 mL_earlier := ⟨(tb_5 206 rfl rfl), (tb_5 207 rfl rfl), (tb_1 0 rfl rfl), ⟨_, rfl, (tb_5 208 rfl rfl)⟩, ⟨by decide, by decide⟩, by decide +kernel, by decide⟩
theorem mtL_215 : MT RL 215 3 mL_ratio := ⟨(tb_5 223 rfl rfl), (tb_5 224 rfl rfl), (tb_1 0 rfl rfl), ⟨_, rfl, (tb_5 225 rfl rfl)⟩, ⟨by decide, by decide⟩, by decide +kernel, by decide⟩
theorem mtL_218 : MT RL 218 3 mL_strange := ⟨(tb_6 1 rfl rfl), (tb_6 2 rfl rfl), (tb_1 0 rfl rfl), ⟨_, rfl, (tb_6 3 rfl rfl)⟩, ⟨by decide, by decide⟩, by decide +kernel, by decide⟩
theorem mtL_221 : MT RL 221 4 mL_span := ⟨(tb_6 14 rfl rfl), (tb_6 15 rfl rfl), (tb_1 0 rfl rfl), ⟨_, rfl, (tb_6 16 rfl rfl)⟩, ⟨by decide, by decide⟩, by decide +kernel, by decide⟩
theorem mtL_224 : MT RL 224 4 mL_better := ⟨(tb_6 26 rfl rfl), (tb_6 27 rfl rfl), (tb_1 0 rfl rfl), ⟨_, rfl, (tb_6 28 rfl rfl)⟩, ⟨by decide, by decide⟩, by decide +kernel, by decide⟩
theorem mtL_227 : MT RL 227 4 mL_lines := ⟨(tb_6 55 rfl rfl), (tb_6 56 rfl rfl), (tb_1 0 rfl rfl), ⟨_, rfl, (tb_6 57 rfl rfl)⟩, ⟨by decide, by decide⟩, by decide +kernel, by decide⟩
theorem mtL_230 : MT RL 230 4 mL_mile := ⟨(tb_6 66 rfl rfl), (tb_6 67 rfl rfl), (tb_1 0 rfl rfl), ⟨_, rfl, (tb_6 68 rfl rfl)⟩, ⟨by decide, by decide⟩, by decide +kernel, by decide⟩
theorem mtL_242 : MT RL 242 4 mL_odds := ⟨(tb_6 73 rfl rfl), (tb_6 74 rfl rfl), (tb_1 0 rfl rfl), ⟨_, rfl, (tb_6 75 rfl rfl)⟩, ⟨by decide, by decide⟩, by decide +kernel, by decide⟩
theorem mtL_245 : MT RL 245 6 mL_price := ⟨(tb_6 84 rfl rfl), (tb_6 85 rfl rfl), (tb_1 0 rfl rfl), ⟨_, rfl, (tb_6 86 rfl rfl)⟩, ⟨by decide, by decide⟩, by decide +kernel, by decide⟩
theorem mtL_248 : MT RL 248 4 mL_foul := ⟨(tb_6 96 rfl rfl), (tb_6 97 rfl rfl), (tb_1 0 rfl rfl), ⟨_, rfl, (tb_6 98 rfl rfl)⟩, ⟨by decide, by decide⟩, by decide +kernel, by decide⟩
theorem mtL_251 : MT RL 251 3 mL_grown := ⟨(tb_6 107 rfl rfl), (tb_6 108 rfl rfl), (tb_1 0 rfl rfl), ⟨_, rfl, (tb_6 109 rfl rfl)⟩, ⟨by decide, by decide⟩, by decide +kernel, by decide⟩
