theorem iX0 : ∀ w ∈ u_ws RX0 TX0 6, w ∈ wtbl := by
  intro w hw
  obtain ⟨k, hk, rfl⟩ := List.mem_map.mp hw
  have hk := List.mem_range.mp hk
  match k, hk with
  | 0, _ => exact wt2 178 (by decide +kernel) (by decide +kernel)
  | 1, _ => exact wt2 180 (by decide +kernel) (by decide +kernel)
  | 2, _ => exact wt2 182 (by decide +kernel) (by decide +kernel)
  | 3, _ => exact wt2 184 (by decide +kernel) (by decide +kernel)
  | 4, _ => exact wt2 186 (by decide +kernel) (by decide +kernel)
  | 5, _ => exact wt2 188 (by decide +kernel) (by decide +kernel)
  | k + 6, hk => exact absurd hk (by omega)
theorem iX1 : ∀ w ∈ u_ws RX1 TX1 3, w ∈ wtbl := by
  intro w hw
  obtain ⟨k, hk, rfl⟩ := List.mem_map.mp hw
  have hk := List.mem_range.mp hk
  match k, hk with
  | 0, _ => exact wt1 122 (by decide +kernel) (by decide +kernel)
  | 1, _ => exact wt1 124 (by decide +kernel) (by decide +kernel)
  | 2, _ => exact wt1 126 (by decide +kernel) (by decide +kernel)
  | k + 3, hk => exact absurd hk (by omega)
theorem iX2 : ∀ w ∈ u_ws RX2 TX2 4, w ∈ wtbl := by
  intro w hw
  obtain ⟨k, hk, rfl⟩ := List.mem_map.mp hw
  have hk := List.mem_range.mp hk
  match k, hk with
  | 0, _ => exact wt1 53 (by decide +kernel) (by decide +kernel)
  | 1, _ => exact wt1 55 (by decide +kernel) (by decide +kernel)
  | 2, _ => exact wt1 57 (by decide +kernel) (by decide +kernel)
  | 3, _ => exact wt1 59 (by decide +kernel) (by decide +kernel)
  | k + 4, hk => exact absurd hk (by omega)
theorem iX3 : ∀ w ∈ u_ws RX3 TX3 4, w ∈ wtbl := by
  intro w hw
  obtain ⟨k, hk, rfl⟩ := List.mem_map.mp hw
  have hk := List.mem_range.mp hk
  match k, hk with
  | 0, _ => exact wt1 94 (by decide +kernel) (by decide +kernel)
  | 1, _ => exact wt1 96 (by decide +kernel) (by decide +kernel)
  | 2, _ => exact wt1 98 (by decide +kernel) (by decide +kernel)
  | 3, _ => exact wt1 100 (by decide +kernel) (by decide +kernel)
  | k + 4, hk => exact absurd hk (by omega)
theorem iX4 : ∀ w ∈ u_ws RX4 TX4 6, w ∈ wtbl := by
  intro w hw
  obtain ⟨k, hk, rfl⟩ := List.mem_map.mp hw
  have hk := List.mem_range.mp hk
  match k, hk with
  | 0, _ => exact wt2 152 (by decide +kernel) (by decide +kernel)
  | 1, _ => exact wt2 154 (by decide +kernel) (by decide +kernel)
  | 2, _ => exact wt2 156 (by decide +kernel) (by decide +kernel)
  | 3, _ => exact wt2 158 (by decide +kernel) (by decide +kernel)
  | 4, _ => exact wt2 160 (by decide +kernel) (by decide +kernel)
  | 5, _ => exact wt2 162 (by decide +kernel) (by decide +kernel)
  | k + 6, hk => exact absurd hk (by omega)
theorem iX5 : ∀ w ∈ u_ws RX5 TX5 3, w ∈ wtbl := by
  intro w hw
  obtain ⟨k, hk, rfl⟩ := List.mem_map.mp hw
  have hk := List.mem_range.mp hk
  match k, hk with
  | 0, _ => exact wt1 167 (by decide +kernel) (by decide +kernel)
  | 1, _ => exact wt1 169 (by decide +kernel) (by decide +kernel)
  | 2, _ => exact wt1 171 (by decide +kernel) (by decide +kernel)
  | k + 3, hk => exact absurd hk (by omega)
theorem iX6 : ∀ w ∈ u_ws RX6 TX6 14, w ∈ wtbl := by
  intro w hw
  obtain ⟨k, hk, rfl⟩ := List.mem_map.mp hw
  have hk := List.mem_range.mp hk
  match k, hk with
  | 0, _ => exact wt2 108 (by decide +kernel) (by decide +kernel)
  | 1, _ => exact wt2 110 (by decide +kernel) (by decide +kernel)
  | 2, _ => exact wt2 112 (by decide +kernel) (by decide +kernel)
  | 3, _ => exact wt2 114 (by decide +kernel) (by decide +kernel)
  | 4, _ => exact wt2 116 (by decide +kernel) (by decide +kernel)
  | 5, _ => exact wt2 118 (by decide +kernel) (by decide +kernel)
  | 6, _ => exact wt2 120 (by decide +kernel) (by decide +kernel)
  | 7, _ => exact wt2 122 (by decide +kernel) (by decide +kernel)
  | 8, _ => exact wt2 124 (by decide +kernel) (by decide +kernel)
  | 9, _ => exact wt2 126 (by decide +kernel) (by decide +kernel)
  | 10, _ => exact wt2 128 (by decide +kernel) (by decide +kernel)
  | 11, _ => exact wt2 130 (by decide +kernel) (by decide +kernel)
  | 12, _ => exact wt2 132 (by decide +kernel) (by decide +kernel)
  | 13, _ => exact wt2 134 (by decide +kernel) (by decide +kernel)
  | k + 14, hk => exact absurd hk (by omega)
theorem iX7 : ∀ w ∈ u_ws RX7 TX7 3, w ∈ wtbl := by
  intro w hw
  obtain ⟨k, hk, rfl⟩ := List.mem_map.mp hw
  have hk := List.mem_range.mp hk
  match k, hk with
  | 0, _ => exact wt2 200 (by decide +kernel) (by decide +kernel)
  | 1, _ => exact wt2 202 (by decide +kernel) (by decide +kernel)
  | 2, _ => exact wt2 204 (by decide +kernel) (by decide +kernel)
  | k + 3, hk => exact absurd hk (by omega)
theorem iX8 : ∀ w ∈ u_ws RX8 TX8 2, w ∈ wtbl := by
  intro w hw
  obtain ⟨k, hk, rfl⟩ := List.mem_map.mp hw
  have hk := List.mem_range.mp hk
  match k, hk with
  | 0, _ => exact wt2 215 (by decide +kernel) (by decide +kernel)
  | 1, _ => exact wt2 217 (by decide +kernel) (by decide +kernel)
  | k + 2, hk => exact absurd hk (by omega)
theorem iX9 : ∀ w ∈ u_ws RX9 TX9 16, w ∈ wtbl := by
  intro w hw
  obtain ⟨k, hk, rfl⟩ := List.mem_map.mp hw
  have hk := List.mem_range.mp hk
  match k, hk with
  | 0, _ => exact wt1 234 (by decide +kernel) (by decide +kernel)
  | 1, _ => exact wt1 236 (by decide +kernel) (by decide +kernel)
  | 2, _ => exact wt1 238 (by decide +kernel) (by decide +kernel)
  | 3, _ => exact wt2 0 (by decide +kernel) (by decide +kernel)
  | 4, _ => exact wt2 2 (by decide +kernel) (by decide +kernel)
  | 5, _ => exact wt2 4 (by decide +kernel) (by decide +kernel)
  | 6, _ => exact wt2 6 (by decide +kernel) (by decide +kernel)
  | 7, _ => exact wt2 8 (by decide +kernel) (by decide +kernel)
  | 8, _ => exact wt2 10 (by decide +kernel) (by decide +kernel)
  | 9, _ => exact wt2 12 (by decide +kernel) (by decide +kernel)
  | 10, _ => exact wt2 14 (by decide +kernel) (by decide +kernel)
  | 11, _ => exact wt2 16 (by decide +kernel) (by decide +kernel)
  | 12, _ => exact wt2 18 (by decide +kernel) (by decide +kernel)
  | 13, _ => exact wt2 20 (by decide +kernel) (by decide +kernel)
  | 14, _ => exact wt2 22 (by decide +kernel) (by decide +kernel)
  | 15, _ => exact wt2 24 (by decide +kernel) (by decide +kernel)
  | k + 16, hk => exact absurd hk (by omega)
theorem iX10 : ∀ w ∈ u_ws RX10 TX10 3, w ∈ wtbl := by
  intro w hw
  obtain ⟨k, hk, rfl⟩ := List.mem_map.mp hw
  have hk := List.mem_range.mp hk
  match k, hk with
  | 0, _ => exact wt1 146 (by decide +kernel) (by decide +kernel)
  | 1, _ => exact wt1 148 (by decide +kernel) (by decide +kernel)
  | 2, _ => exact wt1 150 (by decide +kernel) (by decide +kernel)
  | k + 3, hk => exact absurd hk (by omega)
theorem iX11 : ∀ w ∈ u_ws RX11 TX11 12, w ∈ wtbl := by
  intro w hw
  obtain ⟨k, hk, rfl⟩ := List.mem_map.mp hw
  have hk := List.mem_range.mp hk
  match k, hk with
  | 0, _ => exact wt2 232 (by decide +kernel) (by decide +kernel)
  | 1, _ => exact wt2 234 (by decide +kernel) (by decide +kernel)
  | 2, _ => exact wt2 236 (by decide +kernel) (by decide +kernel)
  | 3, _ => exact wt2 238 (by decide +kernel) (by decide +kernel)
  | 4, _ => exact wt3 0 (by decide +kernel) (by decide +kernel)
  | 5, _ => exact wt3 2 (by decide +kernel) (by decide +kernel)
  | 6, _ => exact wt3 4 (by decide +kernel) (by decide +kernel)
  | 7, _ => exact wt3 6 (by decide +kernel) (by decide +kernel)
  | 8, _ => exact wt3 8 (by decide +kernel) (by decide +kernel)
  | 9, _ => exact wt3 10 (by decide +kernel) (by decide +kernel)
  | 10, _ => exact wt3 12 (by decide +kernel) (by decide +kernel)
  | 11, _ => exact wt3 14 (by decide +kernel) (by decide +kernel)
  | k + 12, hk => exact absurd hk (by omega)
theorem iX12 : ∀ w ∈ u_ws RX12 TX12 29, w ∈ wtbl := by
  intro w hw
  obtain ⟨k, hk, rfl⟩ := List.mem_map.mp hw
  have hk := List.mem_range.mp hk
  match k, hk with
  | 0, _ => exact wt6 224 (by decide +kernel) (by decide +kernel)
  | 1, _ => exact wt6 226 (by decide +kernel) (by decide +kernel)
  | 2, _ => exact wt6 228 (by decide +kernel) (by decide +kernel)
  | 3, _ => exact wt6 230 (by decide +kernel) (by decide +kernel)
  | 4, _ => exact wt6 232 (by decide +kernel) (by decide +kernel)
  | 5, _ => exact wt6 234 (by decide +kernel) (by decide +kernel)
  | 6, _ => exact wt6 236 (by decide +kernel) (by decide +kernel)
  | 7, _ => exact wt6 238 (by decide +kernel) (by decide +kernel)
  | 8, _ => exact wt7 0 (by decide +kernel) (by decide +kernel)
  | 9, _ => exact wt7 2 (by decide +kernel) (by decide +kernel)
  | 10, _ => exact wt7 4 (by decide +kernel) (by decide +kernel)
  | 11, _ => exact wt7 6 (by decide +kernel) (by decide +kernel)
  | 12, _ => exact wt7 8 (by decide +kernel) (by decide +kernel)
  | 13, _ => exact wt7 10 (by decide +kernel) (by decide +kernel)
  | 14, _ => exact wt7 12 (by decide +kernel) (by decide +kernel)
  | 15, _ => exact wt7 14 (by decide +kernel) (by decide +kernel)
  | 16, _ => exact wt7 16 (by decide +kernel) (by decide +kernel)
  | 17, _ => exact wt7 18 (by decide +kernel) (by decide +kernel)
  | 18, _ => exact wt7 20 (by decide +kernel) (by decide +kernel)
  | 19, _ => exact wt7 22 (by decide +kernel) (by decide +kernel)
  | 20, _ => exact wt7 24 (by decide +kernel) (by decide +kernel)
  | 21, _ => exact wt7 26 (by decide +kernel) (by decide +kernel)
  | 22, _ => exact wt7 28 (by decide +kernel) (by decide +kernel)
  | 23, _ => exact wt7 30 (by decide +kernel) (by decide +kernel)
  | 24, _ => exact wt7 32 (by decide +kernel) (by decide +kernel)
  | 25, _ => exact wt7 34 (by decide +kernel) (by decide +kernel)
  | 26, _ => exact wt7 36 (by decide +kernel) (by decide +kernel)
  | 27, _ => exact wt7 38 (by decide +kernel) (by decide +kernel)
  | 28, _ => exact wt7 40 (by decide +kernel) (by decide +kernel)
  | k + 29, hk => exact absurd hk (by omega)
theorem iX13 : ∀ w ∈ u_ws RX13 TX13 32, w ∈ wtbl := by
  intro w hw
  obtain ⟨k, hk, rfl⟩ := List.mem_map.mp hw
  have hk := List.mem_range.mp hk
  match k, hk with
  | 0, _ => exact wt6 85 (by decide +kernel) (by decide +kernel)
  | 1, _ => exact wt6 87 (by decide +kernel) (by decide +kernel)
  | 2, _ => exact wt6 89 (by decide +kernel) (by decide +kernel)
  | 3, _ => exact wt6 91 (by decide +kernel) (by decide +kernel)
  | 4, _ => exact wt6 93 (by decide +kernel) (by decide +kernel)
  | 5, _ => exact wt6 95 (by decide +kernel) (by decide +kernel)
  | 6, _ => exact wt6 97 (by decide +kernel) (by decide +kernel)
  | 7, _ => exact wt6 99 (by decide +kernel) (by decide +kernel)
  | 8, _ => exact wt6 101 (by decide +kernel) (by decide +kernel)
  | 9, _ => exact wt6 103 (by decide +kernel) (by decide +kernel)
  | 10, _ => exact wt6 105 (by decide +kernel) (by decide +kernel)
  | 11, _ => exact wt6 107 (by decide +kernel) (by decide +kernel)
  | 12, _ => exact wt6 109 (by decide +kernel) (by decide +kernel)
  | 13, _ => exact wt6 111 (by decide +kernel) (by decide +kernel)
  | 14, _ => exact wt6 113 (by decide +kernel) (by decide +kernel)
  | 15, _ => exact wt6 115 (by decide +kernel) (by decide +kernel)
  | 16, _ => exact wt6 117 (by decide +kernel) (by decide +kernel)
  | 17, _ => exact wt6 119 (by decide +kernel) (by decide +kernel)
  | 18, _ => exact wt6 121 (by decide +kernel) (by decide +kernel)
  | 19, _ => exact wt6 123 (by decide +kernel) (by decide +kernel)
  | 20, _ => exact wt6 125 (by decide +kernel) (by decide +kernel)
  | 21, _ => exact wt6 127 (by decide +kernel) (by decide +kernel)
  | 22, _ => exact wt6 129 (by decide +kernel) (by decide +kernel)
  | 23, _ => exact wt6 131 (by decide +kernel) (by decide +kernel)
  | 24, _ => exact wt6 133 (by decide +kernel) (by decide +kernel)
  | 25, _ => exact wt6 135 (by decide +kernel) (by decide +kernel)
  | 26, _ => exact wt6 137 (by decide +kernel) (by decide +kernel)
  | 27, _ => exact wt6 139 (by decide +kernel) (by decide +kernel)
  | 28, _ => exact wt6 141 (by decide +kernel) (by decide +kernel)
  | 29, _ => exact wt6 143 (by decide +kernel) (by decide +kernel)
  | 30, _ => exact wt6 145 (by decide +kernel) (by decide +kernel)
  | 31, _ => exact wt6 147 (by decide +kernel) (by decide +kernel)
  | k + 32, hk => exact absurd hk (by omega)
