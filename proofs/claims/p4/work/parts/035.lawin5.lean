set_option maxRecDepth 100000 in
theorem wsL_i_wsX30 : ∀ w ∈ wsX30, w ∈ lw_tbl := by decide +kernel
set_option maxRecDepth 100000 in
theorem wsL_i_wsX40 : ∀ w ∈ wsX40, w ∈ lw_tbl := by decide +kernel
set_option maxRecDepth 100000 in
theorem wsL_i_wsJx4a65c0 : ∀ w ∈ wsJx4a65c0, w ∈ lw_tbl := by decide +kernel
set_option maxRecDepth 100000 in
theorem wsL_i_wsX20 : ∀ w ∈ wsX20, w ∈ lw_tbl := by decide +kernel
set_option maxRecDepth 100000 in
theorem wsL_i_wsX00 : ∀ w ∈ wsX00, w ∈ lw_tbl := by decide +kernel
set_option maxRecDepth 100000 in
theorem wsL_i_wsX10 : ∀ w ∈ wsX10, w ∈ lw_tbl := by decide +kernel
set_option maxRecDepth 100000 in
theorem wsL_law_in0 : ∀ w ∈ wsL_law0, w ∈ lw_tbl := (List.forall_mem_append.mpr ⟨(List.forall_mem_append.mpr ⟨(List.forall_mem_append.mpr ⟨(List.forall_mem_append.mpr ⟨(List.forall_mem_append.mpr ⟨(List.forall_mem_append.mpr ⟨(List.forall_mem_append.mpr ⟨(List.forall_mem_append.mpr ⟨wsL_ir1, (List.forall_mem_append.mpr ⟨wsL_ir2, (List.forall_mem_append.mpr ⟨wsL_ir3, (List.forall_mem_append.mpr ⟨wsL_ir4, (List.forall_mem_append.mpr ⟨wsL_ir5, (List.forall_mem_append.mpr ⟨wsL_ir6, (List.forall_mem_append.mpr ⟨wsL_ir7, (List.forall_mem_append.mpr ⟨wsL_ir8, (List.forall_mem_append.mpr ⟨wsL_ir9, (List.forall_mem_append.mpr ⟨wsL_ir10, (List.forall_mem_append.mpr ⟨wsL_ir11, (List.forall_mem_append.mpr ⟨wsL_ir12, (List.forall_mem_append.mpr ⟨wsL_ir13, (List.forall_mem_append.mpr ⟨wsL_ir14, (List.forall_mem_append.mpr ⟨wsL_ir15, (List.forall_mem_append.mpr ⟨wsL_ir16, (List.forall_mem_append.mpr ⟨wsL_ir17, (List.forall_mem_append.mpr ⟨wsL_ir18, (List.forall_mem_append.mpr ⟨wsL_ir19, (List.forall_mem_append.mpr ⟨wsL_ir20, (List.forall_mem_append.mpr ⟨wsL_ir21, (List.forall_mem_append.mpr ⟨wsL_ir22, (List.forall_mem_append.mpr ⟨wsL_ir23, (List.forall_mem_append.mpr ⟨wsL_ir24, (List.forall_mem_append.mpr ⟨wsL_ir25, (List.forall_mem_append.mpr ⟨wsL_ir26, (List.forall_mem_append.mpr ⟨wsL_ir27, (List.forall_mem_append.mpr ⟨wsL_ir28, (List.forall_mem_append.mpr ⟨wsL_ir29, (List.forall_mem_append.mpr ⟨wsL_ir30, (List.forall_mem_append.mpr ⟨wsL_ir31, (List.forall_mem_append.mpr ⟨wsL_ir32, (List.forall_mem_append.mpr ⟨wsL_ir33, wsL_ir34⟩)⟩)⟩)⟩)⟩)⟩)⟩)⟩)⟩)⟩)⟩)⟩)⟩)⟩)⟩)⟩)⟩)⟩)⟩)⟩)⟩)⟩)⟩)⟩)⟩)⟩)⟩)⟩)⟩)⟩)⟩)⟩)⟩), wsL_i_wsX30⟩), wsL_i_wsX40⟩), wsL_i_wsJx4a65c0⟩), wsL_i_wsX20⟩), wsL_i_wsX00⟩), wsL_i_wsX10⟩), (fun _ h => absurd h List.not_mem_nil)⟩)
