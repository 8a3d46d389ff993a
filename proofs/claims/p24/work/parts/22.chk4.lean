set_option maxRecDepth 100000 in
theorem pk_154 : pm_dOk (pm_msT pm_tab) pd_154 := ⟨by decide +kernel, by decide +kernel⟩
set_option maxRecDepth 100000 in
theorem pk_155 : pm_dOk (pm_msT pm_tab) pd_155 := ⟨by decide +kernel, by decide +kernel⟩
set_option maxRecDepth 100000 in
theorem pk_156 : pm_dOk (pm_msT pm_tab) pd_156 := ⟨by decide +kernel, by decide +kernel⟩
set_option maxRecDepth 100000 in
theorem pk_157 : pm_dOk (pm_msT pm_tab) pd_157 := ⟨by decide +kernel, by decide +kernel⟩
set_option maxRecDepth 100000 in
theorem pk_158 : pm_dOk (pm_msT pm_tab) pd_158 := ⟨by decide +kernel, by decide +kernel⟩
set_option maxRecDepth 100000 in
theorem pk_159 : pm_dOk (pm_msT pm_tab) pd_159 := ⟨by decide +kernel, by decide +kernel⟩
set_option maxRecDepth 100000 in
theorem pk_160 : pm_dOk (pm_msT pm_tab) pd_160 := ⟨by decide +kernel, by decide +kernel⟩
set_option maxRecDepth 100000 in
theorem pk_161 : pm_dOk (pm_msT pm_tab) pd_161 := ⟨by decide +kernel, by decide +kernel⟩
set_option maxRecDepth 100000 in
theorem pk_162 : pm_dOk (pm_msT pm_tab) pd_162 := ⟨by decide +kernel, by decide +kernel⟩
set_option maxRecDepth 100000 in
theorem pk_163 : pm_dOk (pm_msT pm_tab) pd_163 := ⟨by decide +kernel, by decide +kernel⟩
set_option maxRecDepth 100000 in
theorem pk_164 : pm_dOk (pm_msT pm_tab) pd_164 := ⟨by decide +kernel, by decide +kernel⟩
set_option maxRecDepth 100000 in
theorem pk_165 : pm_dOk (pm_msT pm_tab) pd_165 := ⟨by decide +kernel, by decide +kernel⟩
set_option maxRecDepth 100000 in
theorem pk_166 : pm_dOk (pm_msT pm_tab) pd_166 := ⟨by decide +kernel, by decide +kernel⟩
set_option maxRecDepth 100000 in
theorem pk_167 : pm_dOk (pm_msT pm_tab) pd_167 := ⟨by decide +kernel, by decide +kernel⟩
set_option maxRecDepth 100000 in
theorem pk_168 : pm_dOk (pm_msT pm_tab) pd_168 := ⟨by decide +kernel, by decide +kernel⟩
set_option maxRecDepth 100000 in
theorem pk_169 : pm_dOk (pm_msT pm_tab) pd_169 := ⟨by decide +kernel, by decide +kernel⟩
set_option maxRecDepth 100000 in
theorem pk_170 : pm_dOk (pm_msT pm_tab) pd_170 := ⟨by decide +kernel, by decide +kernel⟩
set_option maxRecDepth 100000 in
theorem pk_171 : pm_dOk (pm_msT pm_tab) pd_171 := ⟨by decide +kernel, by decide +kernel⟩
set_option maxRecDepth 100000 in
theorem pk_172 : pm_dOk (pm_msT pm_tab) pd_172 := ⟨by decide +kernel, by decide +kernel⟩
set_option maxRecDepth 100000 in
theorem pk_173 : pm_dOk (pm_msT pm_tab) pd_173 := ⟨by decide +kernel, by decide +kernel⟩
set_option maxRecDepth 100000 in
theorem pk_174 : pm_dOk (pm_msT pm_tab) pd_174 := ⟨by decide +kernel, by decide +kernel⟩
set_option maxRecDepth 100000 in
theorem pk_175 : pm_dOk (pm_msT pm_tab) pd_175 := ⟨by decide +kernel, by decide +kernel⟩
set_option maxRecDepth 100000 in
theorem pk_176 : pm_dOk (pm_msT pm_tab) pd_176 := ⟨by decide +kernel, by decide +kernel⟩
set_option maxRecDepth 100000 in
theorem pk_177 : pm_dOk (pm_msT pm_tab) pd_177 := ⟨by decide +kernel, by decide +kernel⟩
set_option maxRecDepth 100000 in
theorem pk_178 : pm_dOk (pm_msT pm_tab) pd_178 := ⟨by decide +kernel, by decide +kernel⟩
set_option maxRecDepth 100000 in
theorem pk_179 : pm_dOk (pm_msT pm_tab) pd_179 := ⟨by decide +kernel, by decide +kernel⟩
set_option maxRecDepth 100000 in
theorem pk_180 : pm_dOk (pm_msT pm_tab) pd_180 := ⟨by decide +kernel, by decide +kernel⟩
set_option maxRecDepth 100000 in
theorem pk_181 : pm_dOk (pm_msT pm_tab) pd_181 := ⟨by decide +kernel, by decide +kernel⟩
set_option maxRecDepth 100000 in
theorem pk_182 : pm_dOk (pm_msT pm_tab) pd_182 := ⟨by decide +kernel, by decide +kernel⟩
set_option maxRecDepth 100000 in
theorem pk_183 : pm_dOk (pm_msT pm_tab) pd_183 := ⟨by decide +kernel, by decide +kernel⟩
set_option maxRecDepth 100000 in
theorem pk_184 : pm_dOk (pm_msT pm_tab) pd_184 := ⟨by decide +kernel, by decide +kernel⟩
set_option maxRecDepth 100000 in
theorem pk_185 : pm_dOk (pm_msT pm_tab) pd_185 := ⟨by decide +kernel, by decide +kernel⟩
set_option maxRecDepth 100000 in
theorem pk_186 : pm_dOk (pm_msT pm_tab) pd_186 := ⟨by decide +kernel, by decide +kernel⟩
set_option maxRecDepth 100000 in
theorem pk_187 : pm_dOk (pm_msT pm_tab) pd_187 := ⟨by decide +kernel, by decide +kernel⟩
set_option maxRecDepth 100000 in
theorem pk_188 : pm_dOk (pm_msT pm_tab) pd_188 := ⟨by decide +kernel, by decide +kernel⟩
set_option maxRecDepth 100000 in
theorem pk_189 : pm_dOk (pm_msT pm_tab) pd_189 := ⟨by decide +kernel, by decide +kernel⟩
set_option maxRecDepth 100000 in
theorem pk_190 : pm_dOk (pm_msT pm_tab) pd_190 := ⟨by decide +kernel, by decide +kernel⟩
set_option maxRecDepth 100000 in
theorem pk_191 : pm_dOk (pm_msT pm_tab) pd_191 := ⟨by decide +kernel, by decide +kernel⟩
set_option maxRecDepth 100000 in
theorem pk_192 : pm_dOk (pm_msT pm_tab) pd_192 := ⟨by decide +kernel, by decide +kernel⟩
set_option maxRecDepth 100000 in
theorem pk_193 : pm_dOk (pm_msT pm_tab) pd_193 := ⟨by decide +kernel, by decide +kernel⟩
set_option maxRecDepth 100000 in
theorem pk_194 : pm_dOk (pm_msT pm_tab) pd_194 := ⟨by decide +kernel, by decide +kernel⟩
set_option maxRecDepth 100000 in
theorem pk_195 : pm_dOk (pm_msT pm_tab) pd_195 := ⟨by decide +kernel, by decide +kernel⟩
set_option maxRecDepth 100000 in
theorem pk_196 : pm_dOk (pm_msT pm_tab) pd_196 := ⟨by decide +kernel, by decide +kernel⟩
