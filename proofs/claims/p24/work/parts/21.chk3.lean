set_option maxRecDepth 100000 in
theorem pk_100 : pm_dOk (pm_msT pm_tab) pd_100 := ⟨by decide +kernel, by decide +kernel⟩
set_option maxRecDepth 100000 in
theorem pk_101 : pm_dOk (pm_msT pm_tab) pd_101 := ⟨by decide +kernel, by decide +kernel⟩
set_option maxRecDepth 100000 in
theorem pk_102 : pm_dOk (pm_msT pm_tab) pd_102 := ⟨by decide +kernel, by decide +kernel⟩
set_option maxRecDepth 100000 in
theorem pk_103 : pm_dOk (pm_msT pm_tab) pd_103 := ⟨by decide +kernel, by decide +kernel⟩
set_option maxRecDepth 100000 in
theorem pk_104 : pm_dOk (pm_msT pm_tab) pd_104 := ⟨by decide +kernel, by decide +kernel⟩
set_option maxRecDepth 100000 in
theorem pk_105 : pm_dOk (pm_msT pm_tab) pd_105 := ⟨by decide +kernel, by decide +kernel⟩
set_option maxRecDepth 100000 in
theorem pk_106 : pm_dOk (pm_msT pm_tab) pd_106 := ⟨by decide +kernel, by decide +kernel⟩
set_option maxRecDepth 100000 in
theorem pk_107 : pm_dOk (pm_msT pm_tab) pd_107 := ⟨by decide +kernel, by decide +kernel⟩
set_option maxRecDepth 100000 in
theorem pk_108 : pm_dOk (pm_msT pm_tab) pd_108 := ⟨by decide +kernel, by decide +kernel⟩
set_option maxRecDepth 100000 in
theorem pk_109 : pm_dOk (pm_msT pm_tab) pd_109 := ⟨by decide +kernel, by decide +kernel⟩
set_option maxRecDepth 100000 in
theorem pk_110 : pm_dOk (pm_msT pm_tab) pd_110 := ⟨by decide +kernel, by decide +kernel⟩
set_option maxRecDepth 100000 in
theorem pk_111 : pm_dOk (pm_msT pm_tab) pd_111 := ⟨by decide +kernel, by decide +kernel⟩
set_option maxRecDepth 100000 in
theorem pk_112 : pm_dOk (pm_msT pm_tab) pd_112 := ⟨by decide +kernel, by decide +kernel⟩
set_option maxRecDepth 100000 in
theorem pk_113 : pm_dOk (pm_msT pm_tab) pd_113 := ⟨by decide +kernel, by decide +kernel⟩
set_option maxRecDepth 100000 in
theorem pk_114 : pm_dOk (pm_msT pm_tab) pd_114 := ⟨by decide +kernel, by decide +kernel⟩
set_option maxRecDepth 100000 in
theorem pk_115 : pm_dOk (pm_msT pm_tab) pd_115 := ⟨by decide +kernel, by decide +kernel⟩
set_option maxRecDepth 100000 in
theorem pk_116 : pm_dOk (pm_msT pm_tab) pd_116 := ⟨by decide +kernel, by decide +kernel⟩
set_option maxRecDepth 100000 in
theorem pk_117 : pm_dOk (pm_msT pm_tab) pd_117 := ⟨by decide +kernel, by decide +kernel⟩
set_option maxRecDepth 100000 in
theorem pk_118 : pm_dOk (pm_msT pm_tab) pd_118 := ⟨by decide +kernel, by decide +kernel⟩
set_option maxRecDepth 100000 in
theorem pk_119 : pm_dOk (pm_msT pm_tab) pd_119 := ⟨by decide +kernel, by decide +kernel⟩
set_option maxRecDepth 100000 in
theorem pk_120 : pm_dOk (pm_msT pm_tab) pd_120 := ⟨by decide +kernel, by decide +kernel⟩
set_option maxRecDepth 100000 in
theorem pk_121 : pm_dOk (pm_msT pm_tab) pd_121 := ⟨by decide +kernel, by decide +kernel⟩
set_option maxRecDepth 100000 in
theorem pk_122 : pm_dOk (pm_msT pm_tab) pd_122 := ⟨by decide +kernel, by decide +kernel⟩
set_option maxRecDepth 100000 in
theorem pk_123 : pm_dOk (pm_msT pm_tab) pd_123 := ⟨by decide +kernel, by decide +kernel⟩
set_option maxRecDepth 100000 in
theorem pk_124 : pm_dOk (pm_msT pm_tab) pd_124 := ⟨by decide +kernel, by decide +kernel⟩
set_option maxRecDepth 100000 in
theorem pk_125 : pm_dOk (pm_msT pm_tab) pd_125 := ⟨by decide +kernel, by decide +kernel⟩
set_option maxRecDepth 100000 in
theorem pk_126 : pm_dOk (pm_msT pm_tab) pd_126 := ⟨by decide +kernel, by decide +kernel⟩
set_option maxRecDepth 100000 in
theorem pk_127 : pm_dOk (pm_msT pm_tab) pd_127 := ⟨by decide +kernel, by decide +kernel⟩
set_option maxRecDepth 100000 in
theorem pk_128 : pm_dOk (pm_msT pm_tab) pd_128 := ⟨by decide +kernel, by decide +kernel⟩
set_option maxRecDepth 100000 in
theorem pk_129 : pm_dOk (pm_msT pm_tab) pd_129 := ⟨by decide +kernel, by decide +kernel⟩
set_option maxRecDepth 100000 in
theorem pk_130 : pm_dOk (pm_msT pm_tab) pd_130 := ⟨by decide +kernel, by decide +kernel⟩
set_option maxRecDepth 100000 in
theorem pk_131 : pm_dOk (pm_msT pm_tab) pd_131 := ⟨by decide +kernel, by decide +kernel⟩
set_option maxRecDepth 100000 in
theorem pk_132 : pm_dOk (pm_msT pm_tab) pd_132 := ⟨by decide +kernel, by decide +kernel⟩
set_option maxRecDepth 100000 in
theorem pk_133 : pm_dOk (pm_msT pm_tab) pd_133 := ⟨by decide +kernel, by decide +kernel⟩
set_option maxRecDepth 100000 in
theorem pk_134 : pm_dOk (pm_msT pm_tab) pd_134 := ⟨by decide +kernel, by decide +kernel⟩
set_option maxRecDepth 100000 in
theorem pk_135 : pm_dOk (pm_msT pm_tab) pd_135 := ⟨by decide +kernel, by decide +kernel⟩
set_option maxRecDepth 100000 in
theorem pk_136 : pm_dOk (pm_msT pm_tab) pd_136 := ⟨by decide +kernel, by decide +kernel⟩
set_option maxRecDepth 100000 in
theorem pk_137 : pm_dOk (pm_msT pm_tab) pd_137 := ⟨by decide +kernel, by decide +kernel⟩
set_option maxRecDepth 100000 in
theorem pk_138 : pm_dOk (pm_msT pm_tab) pd_138 := ⟨by decide +kernel, by decide +kernel⟩
set_option maxRecDepth 100000 in
theorem pk_139 : pm_dOk (pm_msT pm_tab) pd_139 := ⟨by decide +kernel, by decide +kernel⟩
set_option maxRecDepth 100000 in
theorem pk_140 : pm_dOk (pm_msT pm_tab) pd_140 := ⟨by decide +kernel, by decide +kernel⟩
set_option maxRecDepth 100000 in
theorem pk_141 : pm_dOk (pm_msT pm_tab) pd_141 := ⟨by decide +kernel, by decide +kernel⟩
set_option maxRecDepth 100000 in
theorem pk_142 : pm_dOk (pm_msT pm_tab) pd_142 := ⟨by decide +kernel, by decide +kernel⟩
set_option maxRecDepth 100000 in
theorem pk_143 : pm_dOk (pm_msT pm_tab) pd_143 := ⟨by decide +kernel, by decide +kernel⟩
set_option maxRecDepth 100000 in
theorem pk_144 : pm_dOk (pm_msT pm_tab) pd_144 := ⟨by decide +kernel, by decide +kernel⟩
set_option maxRecDepth 100000 in
theorem pk_145 : pm_dOk (pm_msT pm_tab) pd_145 := ⟨by decide +kernel, by decide +kernel⟩
set_option maxRecDepth 100000 in
theorem pk_146 : pm_dOk (pm_msT pm_tab) pd_146 := ⟨by decide +kernel, by decide +kernel⟩
set_option maxRecDepth 100000 in
theorem pk_147 : pm_dOk (pm_msT pm_tab) pd_147 := ⟨by decide +kernel, by decide +kernel⟩
set_option maxRecDepth 100000 in
theorem pk_148 : pm_dOk (pm_msT pm_tab) pd_148 := ⟨by decide +kernel, by decide +kernel⟩
set_option maxRecDepth 100000 in
theorem pk_149 : pm_dOk (pm_msT pm_tab) pd_149 := ⟨by decide +kernel, by decide +kernel⟩
set_option maxRecDepth 100000 in
theorem pk_150 : pm_dOk (pm_msT pm_tab) pd_150 := ⟨by decide +kernel, by decide +kernel⟩
set_option maxRecDepth 100000 in
theorem pk_151 : pm_dOk (pm_msT pm_tab) pd_151 := ⟨by decide +kernel, by decide +kernel⟩
set_option maxRecDepth 100000 in
theorem pk_152 : pm_dOk (pm_msT pm_tab) pd_152 := ⟨by decide +kernel, by decide +kernel⟩
set_option maxRecDepth 100000 in
theorem pk_153 : pm_dOk (pm_msT pm_tab) pd_153 := ⟨by decide +kernel, by decide +kernel⟩
